def q_X10_setMarks_b18 (S : gSc) (p1 : Nat) (p2 : Int32) : Nat → Int32 → gSc → gSc
  | 0, v3, Z => Z
  | n + 1, v3, Z => (if 24 ≤ v3 then Z else (let r26 := q_X1_hourLeft Z p1 v3; (if r26 = 0 then (let x82 := v3 + 1; q_X10_setMarks_b18 S p1 p2 n x82 Z) else (let S43 := q_X8_setMinute Z (60 * v3); (let r54 := (q_X6_cast S43).1; let S54 := (q_X6_cast S43).2; (if r54 = 0 then (let S79 := q_X3_add S54 v3 (S54.1 7 12) (S54.1 7 13); (let x82 := v3 + 1; q_X10_setMarks_b18 S p1 p2 n x82 S79)) else (let x82 := v3 + 1; q_X10_setMarks_b18 S p1 p2 n x82 S54)))))))
def q_X10_setMarks (S : gSc) (p1 : Nat) (p2 : Int32) : gSc := (let S13 := q_X8_setDay (pI S 13 3 0) p2; q_X10_setMarks_b18 S p1 p2 25 0 S13)
set_option maxHeartbeats 4000000 in
set_option maxRecDepth 100000 in
theorem c_X10_setMarks (l : Launch) (E : gEE) (M : gSm) (S : gSc) (p1 : Nat) (p2 : Int32) (hL1 : p1 ∈ S.2.2.1) (hk1 : S.2.2.2.1 p1 = 1) (hh0 : 0 ≤ (S.1 7 6).toInt) (hh : (S.1 7 6).toInt ≤ 40) (hH : okH S) (hkn0 : 0 ≤ (S.1 1 1).toInt) (hkn : (S.1 1 1).toInt ≤ 366) : Met l yX10_setMarks wsX10_setMarks ({ frames := 4, cells := 0, slots := 0, locals := 94 }) (va_Pc [.ref (eC E 0), .ref (p1), .int (p2)] (gP E M S)) (va_Qv (fun u : gSc => u = q_X10_setMarks S p1 p2) (fun u t => gW E M u t.heap) (eA E)) 0 0 (eA E) := by
  refine Met.ofW (cc := cX10_setMarks) (maxL := 4) (ret := none) (by decide) rfl ?_
  intro p e s m args below meth c s₁ B hml hv
  obtain ⟨rfl, hE, hW⟩ := hv
  have hx := B.exec
  have hb := B.bytes
  have hr := B.returns
  have hts := atoms_spec (ws := wsX10_setMarks) B.pre
  have hown : s.vm.findClass RX10 = some m.cls := findClass_of_methodNamed B.named
  have hlocks := B.notSynchronized
  have hinX10 : ∀ w ∈ wsX100, w ∈ wsX10_setMarks := by decide +kernel
  have hinX3 : ∀ w ∈ wsX30, w ∈ wsX10_setMarks := by decide +kernel
  have hinX6 : ∀ w ∈ wsX60, w ∈ wsX10_setMarks := by decide +kernel
  have hS : va_S (eA E) s.heap s.heap [] := va_S.rf
  have hl := lv_entry ([.ref (eC E 0), .ref (p1), .int (p2)]) (n := 4) (Nat.le_of_ble_eq_true rfl)
  rw [lg_entry_eq]
  generalize (lg_sl ([.ref (eC E 0), .ref (p1), .int (p2)]) ++ List.replicate (4 - (lg_sl ([.ref (eC E 0), .ref (p1), .int (p2)])).length) Slot.unset).toArray = ls at hl ⊢
  have hl : lv_has ls 4 [(0, .ref (eC E 0)), (1, .ref (p1)), (2, .int (p2))] := hl
  have hS : ∃ (H : Heap) (locs : List Loc), H = s.heap ∧ locs = [] ∧ gW E M S H ∧ va_S (eA E) s.heap H locs := ⟨_, _, rfl, rfl, hW, hS⟩
  clear hW
  obtain ⟨H, locs, eH, el, hW, hS⟩ := hS
  rw [← eH, ← el]
  clear eH el
  have L18 : ∀ n : Nat, ∀ (v3 : Int32) (Z : gSc) (H : Heap) (locs : List Loc) (ls : Array Slot), (gL 24 n v3 ∧ kZ S Z ∧ 0 ≤ (Z.1 13 3).toInt ∧ (Z.1 13 3).toInt ≤ v3.toInt) → q_X10_setMarks S p1 p2 = q_X10_setMarks_b18 S p1 p2 n v3 Z → gW E M Z H → va_S (eA E) s.heap H locs → lv_has ls 4 [(0, .ref (eC E 0)), (1, .ref (p1)), (3, .int (v3))] → W p l e (headSpec wsX10_setMarks ({ frames := 4, cells := 0, slots := 0, locals := 94 })).room s m ([.ref (eC E 0), .ref (p1), .int (p2)] : List Value).toArray below meth c H locs 0 0 (MQ below (va_Qv (fun u : gSc => u = q_X10_setMarks S p1 p2) (fun u t => gW E M u t.heap) (eA E)) ([.ref (eC E 0), .ref (p1), .int (p2)] : List Value).toArray s 0 0 (eA E)) (F0 m 18 ls []) := by
    intro n
    induction n with
    | zero =>
      intro v3 Z H locs ls hi hq hW hS hl
      exact hi.1.z
    | succ n ih =>
      intro v3 Z H locs ls hi hq hW hS hl
      have hpZ : Z.2.2 = S.2.2 := hi.2.1.2.2
      refine lv_iload_n hx hb dX10_setMarks_18 rfl (lv_at hl 2 rfl) ?_
      refine lv_bipush (v := 24) hx hb dX10_setMarks_19 (by decide) ?_
      refine lv_icmp_ge (tgt := 88) hx hb dX10_setMarks_21 (by decide) (fun c21 => ?_) (fun c21 => ?_)
      · exact W.vret hx hb hr (fun t ht _ => ⟨⟨Z, rfl, by rw [hq]; first | (simp only [q_X10_setMarks_b18, if_pos c21]; done) | contradiction, by dsimp only; rw [ht]; exact hW⟩, hS.F ht⟩) hS.2.2 dX10_setMarks_88
      · refine lv_aload_n hx hb dX10_setMarks_24 rfl (lv_at hl 1 rfl) ?_
        refine lv_iload_n hx hb dX10_setMarks_25 rfl (lv_at hl 2 rfl) ?_
        obtain ⟨k26, hk26⟩ := wJ_d E M (S := Z) (by rw [hpZ]; exact hL1) (by rw [hpZ]; exact hk1)
        refine k_Si (va_runV (As := [.int (v3)]) (rest := []) ⟨hx, hb, hml, hown, hts⟩ (c_X1_hourLeft l E M Z p1 v3 (by rw [hpZ]; exact hL1) (by rw [hpZ]; exact hk1)) (cwV 1 hts gX10_setMarks_X1_hourLeft rfl rfl rfl (by decide +kernel) ⟨Nat.le_of_ble_eq_true rfl, Nat.le_of_ble_eq_true rfl⟩) (gP.V (ci := 1) (q := (RX1, TX1, 7)) hE hS hW rfl hk26) rfl rfl hl.1 rfl (lv_room (Nat.le_of_ble_eq_true rfl)) dX10_setMarks_26 ⟨Nat.le_of_ble_eq_true rfl, Nat.le_of_ble_eq_true rfl⟩) (fun r26 er26 => ?_)
        refine lv_if_ne (tgt := 35) hx hb dX10_setMarks_29 (by decide) (fun c29 => ?_) (fun c29 => ?_)
        · refine lv_aload_n hx hb dX10_setMarks_35 rfl (lv_at hl 0 rfl) ?_
          refine va_get (D := eD E) (cl := vwCl) (tys := eT E) (ci := 9) (C := RX10) (T := TX10) (N := 12) (v := .ref (eC E 1)) hx hb hts hinX10 hown hE.1 hW.1 11 rfl rfl 0 (by decide) (hts (.fieldLink RX10 10 "DialGarden" "sky" "LDialGarden$Sky;") (by decide +kernel)) (fun _ h9 => h9) rfl dX10_setMarks_36 ?_
          refine lv_bipush (v := 60) hx hb dX10_setMarks_39 (by decide) ?_
          refine lv_iload_n hx hb dX10_setMarks_41 rfl (lv_at hl 2 rfl) ?_
          refine lv_imul hx hb dX10_setMarks_42 ?_
          refine va_callv (va_runV (As := [.int (60 * v3)]) (rest := []) ⟨hx, hb, hml, hown, hts⟩ (c_X8_setMinute l E M Z (60 * v3)) (cwV 1 hts gX10_setMarks_X8_setMinute rfl rfl rfl (by decide +kernel) ⟨Nat.le_of_ble_eq_true rfl, Nat.le_of_ble_eq_true rfl⟩) (gP.V (ci := 8) (q := (RX8, TX8, 16)) (q0 := 12) hE hS hW rfl rfl) rfl rfl hl.1 rfl (lv_room (Nat.le_of_ble_eq_true rfl)) dX10_setMarks_43 ⟨Nat.le_of_ble_eq_true rfl, Nat.le_of_ble_eq_true rfl⟩) hS (fun _ _ h => h) (fun _ h => h) (fun S43 t H locs ht hvm hw hB hzz hkk hS => ?_)
          have eS43 : S43 = q_X8_setMinute Z (60 * v3) := hw
          clear hw
          have hW : gW E M S43 H := by rw [← ht]; exact hB
          have hpS43 : S43.2.2 = Z.2.2 := by rw [eS43]; exact (qp_X8_setMinute _ _)
          refine lv_aload_n hx hb dX10_setMarks_46 rfl (lv_at hl 0 rfl) ?_
          refine va_get (D := eD E) (cl := vwCl) (tys := eT E) (ci := 9) (C := RX10) (T := TX10) (N := 12) (v := .ref (eC E 7)) hx hb hts hinX10 hown hE.1 hW.1 11 rfl rfl 3 (by decide) (hts (.fieldLink RX10 32 "DialGarden" "shade" "LDialGarden$Shade;") (by decide +kernel)) (fun _ h9 => h9) rfl dX10_setMarks_47 ?_
          refine lv_aload_n hx hb dX10_setMarks_50 rfl (lv_at hl 0 rfl) ?_
          refine va_get (D := eD E) (cl := vwCl) (tys := eT E) (ci := 9) (C := RX10) (T := TX10) (N := 12) (v := .ref (eC E 1)) hx hb hts hinX10 hown hE.1 hW.1 11 rfl rfl 0 (by decide) (hts (.fieldLink RX10 10 "DialGarden" "sky" "LDialGarden$Sky;") (by decide +kernel)) (fun _ h9 => h9) rfl dX10_setMarks_51 ?_
          refine va_calli (va_runV (As := [.ref (eC E 1)]) (rest := []) ⟨hx, hb, hml, hown, hts⟩ (c_X6_cast l E M S43 (by rw [eS43]; exact (hi.2.1.st (kw_setMinute _ _)).1.1) (by rw [eS43]; exact (hi.2.1.st (kw_setMinute _ _)).1.2.1) (by rw [eS43]; exact (hi.2.1.st (kw_setMinute _ _)).1.2.2)) (cwV 1 hts gX10_setMarks_X6_cast rfl rfl rfl (by decide +kernel) ⟨Nat.le_of_ble_eq_true rfl, Nat.le_of_ble_eq_true rfl⟩) (gP.V (ci := 6) (q := (RX6, TX6, 13)) (q0 := 18) hE hS hW rfl rfl) rfl rfl hl.1 rfl (lv_room (Nat.le_of_ble_eq_true rfl)) dX10_setMarks_54 ⟨Nat.le_of_ble_eq_true rfl, Nat.le_of_ble_eq_true rfl⟩) hS (fun _ _ h => h) (fun _ h => h) (fun r54 S54 t H locs ht hvm hw hB hzz hkk hS => ?_)
          obtain ⟨er54, eS54⟩ := prj hw
          clear hw
          have hW : gW E M S54 H := by rw [← ht]; exact hB
          have hpS54 : S54.2.2 = S43.2.2 := by rw [eS54]; exact (qp_X6_cast _)
          refine lv_if_ne (tgt := 82) hx hb dX10_setMarks_57 (by decide) (fun c57 => ?_) (fun c57 => ?_)
          · obtain ⟨x82, ex82⟩ : ∃ y : Int32, y = v3 + 1 := ⟨_, rfl⟩
            refine lv_iinc (v := x82) (lv' := [(3, .int (x82)), (0, .ref (eC E 0)), (1, .ref (p1))]) hx hb dX10_setMarks_82 hl (k := 2) rfl (by rw [ex82]; rfl) (by decide) rfl (fun ls hl => ?_)
            refine lv_goto (tgt := 18) hx hb dX10_setMarks_85 (by decide) ?_
            exact ih _ _ _ _ _ (by first | exact ⟨hi.1.st c21 (by decide) ex82, hi.2.1, sm_1 hi c21 ex82⟩ | exact ⟨hi.1.st c21 (by decide) ex82, hi.2.1.st (by rw [eS54, eS43]; exact kw_tr (kw_cast _) (kw_setMinute _ _)), by rw [eS54, kc_cast (by decide), eS43, kc_setMinute (by decide)]; exact sm_1 hi c21 ex82⟩ | exact ⟨hi.1.st c21 (by decide) ex82, hi.2.1.st (by rw [eS79, eS54, eS43]; exact kw_tr (kw_add3 _ _ _ _) (kw_tr (kw_cast _) (kw_setMinute _ _))), by rw [eS79]; exact sm_2 (by rw [eS54, kc_cast (by decide), eS43, kc_setMinute (by decide)]; exact hi.2.2) (hi.1.lt c21 (by decide)) ex82⟩) (by rw [hq]; subst ex82; subst er26; first | (simp only [q_X10_setMarks_b18, if_neg c21, if_neg c29, if_neg c57, ← eS43, ← er54, ← eS54]; done) | contradiction) hW hS (lv_sub hl [1, 2, 0] rfl)
          · refine lv_aload_n hx hb dX10_setMarks_60 rfl (lv_at hl 0 rfl) ?_
            refine va_get (D := eD E) (cl := vwCl) (tys := eT E) (ci := 9) (C := RX10) (T := TX10) (N := 12) (v := .ref (eC E 13)) hx hb hts hinX10 hown hE.1 hW.1 11 rfl rfl 4 (by decide) (hts (.fieldLink RX10 39 "DialGarden" "marks" "LDialGarden$Marks;") (by decide +kernel)) (fun _ h9 => h9) rfl dX10_setMarks_61 ?_
            refine lv_iload_n hx hb dX10_setMarks_64 rfl (lv_at hl 2 rfl) ?_
            refine lv_aload_n hx hb dX10_setMarks_65 rfl (lv_at hl 0 rfl) ?_
            refine va_get (D := eD E) (cl := vwCl) (tys := eT E) (ci := 9) (C := RX10) (T := TX10) (N := 12) (v := .ref (eC E 7)) hx hb hts hinX10 hown hE.1 hW.1 11 rfl rfl 3 (by decide) (hts (.fieldLink RX10 32 "DialGarden" "shade" "LDialGarden$Shade;") (by decide +kernel)) (fun _ h9 => h9) rfl dX10_setMarks_66 ?_
            refine va_getN (D := eD E) (cl := vwCl) (tys := eT E) (ci := 6) (C := RX6) (T := TX6) (N := 13) (v := .int (S54.1 7 12)) hx hb hts hinX6 hown hE.1 hW.1 18 rfl rfl 11 (by decide) (va_Nw.use rfl (hE.2.2.1 (.fieldLinkNest "DialGarden" 236 "DialGarden$Shade" "endX" "I" "DialGarden") (by decide +kernel))) (fun _ h9 => h9) rfl dX10_setMarks_69 ?_
            refine lv_aload_n hx hb dX10_setMarks_72 rfl (lv_at hl 0 rfl) ?_
            refine va_get (D := eD E) (cl := vwCl) (tys := eT E) (ci := 9) (C := RX10) (T := TX10) (N := 12) (v := .ref (eC E 7)) hx hb hts hinX10 hown hE.1 hW.1 11 rfl rfl 3 (by decide) (hts (.fieldLink RX10 32 "DialGarden" "shade" "LDialGarden$Shade;") (by decide +kernel)) (fun _ h9 => h9) rfl dX10_setMarks_73 ?_
            refine va_getN (D := eD E) (cl := vwCl) (tys := eT E) (ci := 6) (C := RX6) (T := TX6) (N := 13) (v := .int (S54.1 7 13)) hx hb hts hinX6 hown hE.1 hW.1 18 rfl rfl 12 (by decide) (va_Nw.use rfl (hE.2.2.1 (.fieldLinkNest "DialGarden" 239 "DialGarden$Shade" "endY" "I" "DialGarden") (by decide +kernel))) (fun _ h9 => h9) rfl dX10_setMarks_76 ?_
            refine va_callv (va_runV (As := [.int (v3), .int (S54.1 7 12), .int (S54.1 7 13)]) (rest := []) ⟨hx, hb, hml, hown, hts⟩ (c_X3_add l E M S54 v3 (S54.1 7 12) (S54.1 7 13) (by rw [eS54, kc_cast (by decide), eS43, kc_setMinute (by decide)]; exact hi.2.2.1)) (cwV 3 hts gX10_setMarks_X3_add rfl rfl rfl (by decide +kernel) ⟨Nat.le_of_ble_eq_true rfl, Nat.le_of_ble_eq_true rfl⟩) (gP.V (ci := 3) (q := (RX3, TX3, 7)) (q0 := 24) hE hS hW rfl rfl) rfl rfl hl.1 rfl (lv_room (Nat.le_of_ble_eq_true rfl)) dX10_setMarks_79 ⟨Nat.le_of_ble_eq_true rfl, Nat.le_of_ble_eq_true rfl⟩) hS (fun _ _ h => h) (fun _ h => h) (fun S79 t H locs ht hvm hw hB hzz hkk hS => ?_)
            have eS79 : S79 = q_X3_add S54 v3 (S54.1 7 12) (S54.1 7 13) := hw
            clear hw
            have hW : gW E M S79 H := by rw [← ht]; exact hB
            have hpS79 : S79.2.2 = S54.2.2 := by rw [eS79]; exact (qp_X3_add _ _ _ _)
            obtain ⟨x82, ex82⟩ : ∃ y : Int32, y = v3 + 1 := ⟨_, rfl⟩
            refine lv_iinc (v := x82) (lv' := [(3, .int (x82)), (0, .ref (eC E 0)), (1, .ref (p1))]) hx hb dX10_setMarks_82 hl (k := 2) rfl (by rw [ex82]; rfl) (by decide) rfl (fun ls hl => ?_)
            refine lv_goto (tgt := 18) hx hb dX10_setMarks_85 (by decide) ?_
            exact ih _ _ _ _ _ (by first | exact ⟨hi.1.st c21 (by decide) ex82, hi.2.1, sm_1 hi c21 ex82⟩ | exact ⟨hi.1.st c21 (by decide) ex82, hi.2.1.st (by rw [eS54, eS43]; exact kw_tr (kw_cast _) (kw_setMinute _ _)), by rw [eS54, kc_cast (by decide), eS43, kc_setMinute (by decide)]; exact sm_1 hi c21 ex82⟩ | exact ⟨hi.1.st c21 (by decide) ex82, hi.2.1.st (by rw [eS79, eS54, eS43]; exact kw_tr (kw_add3 _ _ _ _) (kw_tr (kw_cast _) (kw_setMinute _ _))), by rw [eS79]; exact sm_2 (by rw [eS54, kc_cast (by decide), eS43, kc_setMinute (by decide)]; exact hi.2.2) (hi.1.lt c21 (by decide)) ex82⟩) (by rw [hq]; subst ex82; subst er26; first | (simp only [q_X10_setMarks_b18, if_neg c21, if_neg c29, if_pos c57, ← eS43, ← er54, ← eS54, ← eS79]; done) | contradiction) hW hS (lv_sub hl [1, 2, 0] rfl)
        · refine lv_goto (tgt := 82) hx hb dX10_setMarks_32 (by decide) ?_
          obtain ⟨x82, ex82⟩ : ∃ y : Int32, y = v3 + 1 := ⟨_, rfl⟩
          refine lv_iinc (v := x82) (lv' := [(3, .int (x82)), (0, .ref (eC E 0)), (1, .ref (p1))]) hx hb dX10_setMarks_82 hl (k := 2) rfl (by rw [ex82]; rfl) (by decide) rfl (fun ls hl => ?_)
          refine lv_goto (tgt := 18) hx hb dX10_setMarks_85 (by decide) ?_
          exact ih _ _ _ _ _ (by first | exact ⟨hi.1.st c21 (by decide) ex82, hi.2.1, sm_1 hi c21 ex82⟩ | exact ⟨hi.1.st c21 (by decide) ex82, hi.2.1.st (by rw [eS54, eS43]; exact kw_tr (kw_cast _) (kw_setMinute _ _)), by rw [eS54, kc_cast (by decide), eS43, kc_setMinute (by decide)]; exact sm_1 hi c21 ex82⟩ | exact ⟨hi.1.st c21 (by decide) ex82, hi.2.1.st (by rw [eS79, eS54, eS43]; exact kw_tr (kw_add3 _ _ _ _) (kw_tr (kw_cast _) (kw_setMinute _ _))), by rw [eS79]; exact sm_2 (by rw [eS54, kc_cast (by decide), eS43, kc_setMinute (by decide)]; exact hi.2.2) (hi.1.lt c21 (by decide)) ex82⟩) (by rw [hq]; subst ex82; subst er26; first | (simp only [q_X10_setMarks_b18, if_neg c21, if_pos c29]; done) | contradiction) hW hS (lv_sub hl [1, 2, 0] rfl)
  refine lv_aload_n hx hb dX10_setMarks_0 rfl (lv_at hl 0 rfl) ?_
  refine va_get (D := eD E) (cl := vwCl) (tys := eT E) (ci := 9) (C := RX10) (T := TX10) (N := 12) (v := .ref (eC E 13)) hx hb hts hinX10 hown hE.1 hW.1 11 rfl rfl 4 (by decide) (hts (.fieldLink RX10 39 "DialGarden" "marks" "LDialGarden$Marks;") (by decide +kernel)) (fun _ h9 => h9) rfl dX10_setMarks_1 ?_
  refine lv_iconst (v := 0) hx hb dX10_setMarks_4 (by decide) ?_
  refine va_putN (D := eD E) (cl := vwCl) (tys := eT E) (A := eA E) (ci := 3) (C := RX3) (T := TX3) (N := 7) (v := .int (0)) (ty := .int) hx hb hts hinX3 tyX3 tyX3_ok nmX3 hown hE.1 hW.1 hW.2 hS 24 rfl rfl 3 (by decide) (va_Nw.use rfl (hE.2.2.1 (.fieldLinkNest "DialGarden" 348 "DialGarden$Marks" "size" "I" "DialGarden") (by decide +kernel))) (fun _ h9 => h9) rfl (by decide +kernel) rfl rfl (Nat.le_of_ble_eq_true rfl) dX10_setMarks_5 (fun H locs hP hD hS => ?_)
  have hW : gW E M (pI S 13 3 0) H := gW.of (uC_13_3 E M S 0) hP hD
  refine lv_aload_n hx hb dX10_setMarks_8 rfl (lv_at hl 0 rfl) ?_
  refine va_get (D := eD E) (cl := vwCl) (tys := eT E) (ci := 9) (C := RX10) (T := TX10) (N := 12) (v := .ref (eC E 1)) hx hb hts hinX10 hown hE.1 hW.1 11 rfl rfl 0 (by decide) (hts (.fieldLink RX10 10 "DialGarden" "sky" "LDialGarden$Sky;") (by decide +kernel)) (fun _ h9 => h9) rfl dX10_setMarks_9 ?_
  refine lv_iload_n hx hb dX10_setMarks_12 rfl (lv_at hl 2 rfl) ?_
  refine va_callv (va_runV (As := [.int (p2)]) (rest := []) ⟨hx, hb, hml, hown, hts⟩ (c_X8_setDay l E M (pI S 13 3 0) p2 hkn0 hkn) (cwV 1 hts gX10_setMarks_X8_setDay rfl rfl rfl (by decide +kernel) ⟨Nat.le_of_ble_eq_true rfl, Nat.le_of_ble_eq_true rfl⟩) (gP.V (ci := 8) (q := (RX8, TX8, 16)) (q0 := 12) hE hS hW rfl rfl) rfl rfl hl.1 rfl (lv_room (Nat.le_of_ble_eq_true rfl)) dX10_setMarks_13 ⟨Nat.le_of_ble_eq_true rfl, Nat.le_of_ble_eq_true rfl⟩) hS (fun _ _ h => h) (fun _ h => h) (fun S13 t H locs ht hvm hw hB hzz hkk hS => ?_)
  have eS13 : S13 = q_X8_setDay (pI S 13 3 0) p2 := hw
  clear hw
  have hW : gW E M S13 H := by rw [← ht]; exact hB
  have hpS13 : S13.2.2 = S.2.2 := by rw [eS13]; exact (qp_X8_setDay _ _)
  refine lv_iconst (v := 0) hx hb dX10_setMarks_16 (by decide) ?_
  refine lv_istore_n (lv' := [(3, .int (0)), (0, .ref (eC E 0)), (1, .ref (p1)), (2, .int (p2))]) hx hb dX10_setMarks_17 rfl hl (by decide) rfl (fun ls hl => ?_)
  exact L18 25 _ _ _ _ _ (by exact ⟨gL.i 24, by rw [eS13]; exact (kz_0 hh0 hh hH hkn0 hkn).st (kw_tr (kw_setDay _ _) (kw_pI (by decide) (by decide))), by rw [eS13, kc_setDay (by decide)]; exact sm_0⟩) (by first | (simp only [q_X10_setMarks, ← eS13]; done) | contradiction) hW hS (lv_sub hl [1, 2, 0] rfl)

def q_X10_hasReading (S : gSc) (p1 : Nat) (p2 : Int32) : Int32 × gSc := (let S5 := q_X8_setMinute S p2; (let r16 := (q_X6_cast S5).1; let S16 := (q_X6_cast S5).2; (if r16 = 0 then (let r42 := q_X1_isA S16 p1 3; (let r45 := (q_X3_show S16 (S16.1 7 12) (S16.1 7 13) r42).1; let S45 := (q_X3_show S16 (S16.1 7 12) (S16.1 7 13) r42).2; (if r45 = 0 then (0, S45) else (1, S45)))) else (0, S16))))
set_option maxHeartbeats 4000000 in
set_option maxRecDepth 100000 in
theorem c_X10_hasReading (l : Launch) (E : gEE) (M : gSm) (S : gSc) (p1 : Nat) (p2 : Int32) (hL1 : p1 ∈ S.2.2.1) (hk1 : S.2.2.2.1 p1 = 1) (hh0 : 0 ≤ (S.1 7 6).toInt) (hh : (S.1 7 6).toInt ≤ 40) (hH : okH S) (hkn0 : 0 ≤ (S.1 1 1).toInt) (hkn : (S.1 1 1).toInt ≤ 366) (hs0 : 0 ≤ (S.1 13 3).toInt) (hs : (S.1 13 3).toInt ≤ 24) : Met l yX10_hasReading wsX10_hasReading ({ frames := 4, cells := 0, slots := 0, locals := 94 }) (va_Pc [.ref (eC E 0), .ref (p1), .int (p2)] (gP E M S)) (va_Qi (fun r (u : gSc) => (r, u) = q_X10_hasReading S p1 p2) (fun u t => gW E M u t.heap) (eA E)) 0 0 (eA E) := by
  refine Met.ofW (cc := cX10_hasReading) (maxL := 3) (ret := (some .boolean)) (by decide) rfl ?_
  intro p e s m args below meth c s₁ B hml hv
  obtain ⟨rfl, hE, hW⟩ := hv
  have hx := B.exec
  have hb := B.bytes
  have hr := B.returns
  have hts := atoms_spec (ws := wsX10_hasReading) B.pre
  have hown : s.vm.findClass RX10 = some m.cls := findClass_of_methodNamed B.named
  have hlocks := B.notSynchronized
  have hinX10 : ∀ w ∈ wsX100, w ∈ wsX10_hasReading := by decide +kernel
  have hinX6 : ∀ w ∈ wsX60, w ∈ wsX10_hasReading := by decide +kernel
  have hS : va_S (eA E) s.heap s.heap [] := va_S.rf
  have hl := lv_entry ([.ref (eC E 0), .ref (p1), .int (p2)]) (n := 3) (Nat.le_of_ble_eq_true rfl)
  rw [lg_entry_eq]
  generalize (lg_sl ([.ref (eC E 0), .ref (p1), .int (p2)]) ++ List.replicate (3 - (lg_sl ([.ref (eC E 0), .ref (p1), .int (p2)])).length) Slot.unset).toArray = ls at hl ⊢
  have hl : lv_has ls 3 [(0, .ref (eC E 0)), (1, .ref (p1)), (2, .int (p2))] := hl
  have hS : ∃ (H : Heap) (locs : List Loc), H = s.heap ∧ locs = [] ∧ gW E M S H ∧ va_S (eA E) s.heap H locs := ⟨_, _, rfl, rfl, hW, hS⟩
  clear hW
  obtain ⟨H, locs, eH, el, hW, hS⟩ := hS
  rw [← eH, ← el]
  clear eH el
  refine lv_aload_n hx hb dX10_hasReading_0 rfl (lv_at hl 0 rfl) ?_
  refine va_get (D := eD E) (cl := vwCl) (tys := eT E) (ci := 9) (C := RX10) (T := TX10) (N := 12) (v := .ref (eC E 1)) hx hb hts hinX10 hown hE.1 hW.1 11 rfl rfl 0 (by decide) (hts (.fieldLink RX10 10 "DialGarden" "sky" "LDialGarden$Sky;") (by decide +kernel)) (fun _ h9 => h9) rfl dX10_hasReading_1 ?_
  refine lv_iload_n hx hb dX10_hasReading_4 rfl (lv_at hl 2 rfl) ?_
  refine va_callv (va_runV (As := [.int (p2)]) (rest := []) ⟨hx, hb, hml, hown, hts⟩ (c_X8_setMinute l E M S p2) (cwV 1 hts gX10_hasReading_X8_setMinute rfl rfl rfl (by decide +kernel) ⟨Nat.le_of_ble_eq_true rfl, Nat.le_of_ble_eq_true rfl⟩) (gP.V (ci := 8) (q := (RX8, TX8, 16)) (q0 := 12) hE hS hW rfl rfl) rfl rfl hl.1 rfl (lv_room (Nat.le_of_ble_eq_true rfl)) dX10_hasReading_5 ⟨Nat.le_of_ble_eq_true rfl, Nat.le_of_ble_eq_true rfl⟩) hS (fun _ _ h => h) (fun _ h => h) (fun S5 t H locs ht hvm hw hB hzz hkk hS => ?_)
  have eS5 : S5 = q_X8_setMinute S p2 := hw
  clear hw
  have hW : gW E M S5 H := by rw [← ht]; exact hB
  have hpS5 : S5.2.2 = S.2.2 := by rw [eS5]; exact (qp_X8_setMinute _ _)
  refine lv_aload_n hx hb dX10_hasReading_8 rfl (lv_at hl 0 rfl) ?_
  refine va_get (D := eD E) (cl := vwCl) (tys := eT E) (ci := 9) (C := RX10) (T := TX10) (N := 12) (v := .ref (eC E 7)) hx hb hts hinX10 hown hE.1 hW.1 11 rfl rfl 3 (by decide) (hts (.fieldLink RX10 32 "DialGarden" "shade" "LDialGarden$Shade;") (by decide +kernel)) (fun _ h9 => h9) rfl dX10_hasReading_9 ?_
  refine lv_aload_n hx hb dX10_hasReading_12 rfl (lv_at hl 0 rfl) ?_
  refine va_get (D := eD E) (cl := vwCl) (tys := eT E) (ci := 9) (C := RX10) (T := TX10) (N := 12) (v := .ref (eC E 1)) hx hb hts hinX10 hown hE.1 hW.1 11 rfl rfl 0 (by decide) (hts (.fieldLink RX10 10 "DialGarden" "sky" "LDialGarden$Sky;") (by decide +kernel)) (fun _ h9 => h9) rfl dX10_hasReading_13 ?_
  refine va_calli (va_runV (As := [.ref (eC E 1)]) (rest := []) ⟨hx, hb, hml, hown, hts⟩ (c_X6_cast l E M S5 (by rw [eS5]; exact ((kz_0 hh0 hh hH hkn0 hkn).st (kw_setMinute _ _)).1.1) (by rw [eS5]; exact ((kz_0 hh0 hh hH hkn0 hkn).st (kw_setMinute _ _)).1.2.1) (by rw [eS5]; exact ((kz_0 hh0 hh hH hkn0 hkn).st (kw_setMinute _ _)).1.2.2)) (cwV 1 hts gX10_hasReading_X6_cast rfl rfl rfl (by decide +kernel) ⟨Nat.le_of_ble_eq_true rfl, Nat.le_of_ble_eq_true rfl⟩) (gP.V (ci := 6) (q := (RX6, TX6, 13)) (q0 := 18) hE hS hW rfl rfl) rfl rfl hl.1 rfl (lv_room (Nat.le_of_ble_eq_true rfl)) dX10_hasReading_16 ⟨Nat.le_of_ble_eq_true rfl, Nat.le_of_ble_eq_true rfl⟩) hS (fun _ _ h => h) (fun _ h => h) (fun r16 S16 t H locs ht hvm hw hB hzz hkk hS => ?_)
  obtain ⟨er16, eS16⟩ := prj hw
  clear hw
  have hW : gW E M S16 H := by rw [← ht]; exact hB
  have hpS16 : S16.2.2 = S5.2.2 := by rw [eS16]; exact (qp_X6_cast _)
  refine lv_if_ne (tgt := 55) hx hb dX10_hasReading_19 (by decide) (fun c19 => ?_) (fun c19 => ?_)
  · refine lv_iconst (v := 0) hx hb dX10_hasReading_55 (by decide) ?_
    exact W.zret (v := 0) hx hb hr rfl (fun t ht _ => ⟨⟨0, S16, rfl, by first | (simp only [q_X10_hasReading, if_neg c19, ← eS5, ← er16, ← eS16]; done) | contradiction, by dsimp only; rw [ht]; exact hW⟩, hS.F ht⟩) hS.2.2 dX10_hasReading_56
  · refine lv_aload_n hx hb dX10_hasReading_22 rfl (lv_at hl 0 rfl) ?_
    refine va_get (D := eD E) (cl := vwCl) (tys := eT E) (ci := 9) (C := RX10) (T := TX10) (N := 12) (v := .ref (eC E 13)) hx hb hts hinX10 hown hE.1 hW.1 11 rfl rfl 4 (by decide) (hts (.fieldLink RX10 39 "DialGarden" "marks" "LDialGarden$Marks;") (by decide +kernel)) (fun _ h9 => h9) rfl dX10_hasReading_23 ?_
    refine lv_aload_n hx hb dX10_hasReading_26 rfl (lv_at hl 0 rfl) ?_
    refine va_get (D := eD E) (cl := vwCl) (tys := eT E) (ci := 9) (C := RX10) (T := TX10) (N := 12) (v := .ref (eC E 7)) hx hb hts hinX10 hown hE.1 hW.1 11 rfl rfl 3 (by decide) (hts (.fieldLink RX10 32 "DialGarden" "shade" "LDialGarden$Shade;") (by decide +kernel)) (fun _ h9 => h9) rfl dX10_hasReading_27 ?_
    refine va_getN (D := eD E) (cl := vwCl) (tys := eT E) (ci := 6) (C := RX6) (T := TX6) (N := 13) (v := .int (S16.1 7 12)) hx hb hts hinX6 hown hE.1 hW.1 18 rfl rfl 11 (by decide) (va_Nw.use rfl (hE.2.2.1 (.fieldLinkNest "DialGarden" 236 "DialGarden$Shade" "endX" "I" "DialGarden") (by decide +kernel))) (fun _ h9 => h9) rfl dX10_hasReading_30 ?_
    refine lv_aload_n hx hb dX10_hasReading_33 rfl (lv_at hl 0 rfl) ?_
    refine va_get (D := eD E) (cl := vwCl) (tys := eT E) (ci := 9) (C := RX10) (T := TX10) (N := 12) (v := .ref (eC E 7)) hx hb hts hinX10 hown hE.1 hW.1 11 rfl rfl 3 (by decide) (hts (.fieldLink RX10 32 "DialGarden" "shade" "LDialGarden$Shade;") (by decide +kernel)) (fun _ h9 => h9) rfl dX10_hasReading_34 ?_
    refine va_getN (D := eD E) (cl := vwCl) (tys := eT E) (ci := 6) (C := RX6) (T := TX6) (N := 13) (v := .int (S16.1 7 13)) hx hb hts hinX6 hown hE.1 hW.1 18 rfl rfl 12 (by decide) (va_Nw.use rfl (hE.2.2.1 (.fieldLinkNest "DialGarden" 239 "DialGarden$Shade" "endY" "I" "DialGarden") (by decide +kernel))) (fun _ h9 => h9) rfl dX10_hasReading_37 ?_
    refine lv_aload_n hx hb dX10_hasReading_40 rfl (lv_at hl 1 rfl) ?_
    refine lv_iconst (v := 3) hx hb dX10_hasReading_41 (by decide) ?_
    obtain ⟨k42, hk42⟩ := wJ_d E M (S := S16) (by rw [hpS16]; exact (by rw [hpS5]; exact hL1)) (by rw [hpS16]; exact (by rw [hpS5]; exact hk1))
    refine k_Si (va_runV (As := [.int (3)]) (rest := [.int (S16.1 7 13), .int (S16.1 7 12), .ref (eC E 13)]) ⟨hx, hb, hml, hown, hts⟩ (c_X1_isA l E M S16 p1 3 (by rw [hpS16]; exact (by rw [hpS5]; exact hL1)) (by rw [hpS16]; exact (by rw [hpS5]; exact hk1))) (cwV 1 hts gX10_hasReading_X1_isA rfl rfl rfl (by decide +kernel) ⟨Nat.le_of_ble_eq_true rfl, Nat.le_of_ble_eq_true rfl⟩) (gP.V (ci := 1) (q := (RX1, TX1, 7)) hE hS hW rfl hk42) rfl rfl hl.1 rfl (lv_room (Nat.le_of_ble_eq_true rfl)) dX10_hasReading_42 ⟨Nat.le_of_ble_eq_true rfl, Nat.le_of_ble_eq_true rfl⟩) (fun r42 er42 => ?_)
    refine va_calli (va_runV (As := [.int (S16.1 7 12), .int (S16.1 7 13), .int (r42)]) (rest := []) ⟨hx, hb, hml, hown, hts⟩ (c_X3_show l E M S16 (S16.1 7 12) (S16.1 7 13) r42 (by rw [eS16, kc_cast (by decide), eS5, kc_setMinute (by decide)]; exact hs0) (by rw [eS16, kc_cast (by decide), eS5, kc_setMinute (by decide)]; exact hs)) (cwV 3 hts gX10_hasReading_X3_show rfl rfl rfl (by decide +kernel) ⟨Nat.le_of_ble_eq_true rfl, Nat.le_of_ble_eq_true rfl⟩) (gP.V (ci := 3) (q := (RX3, TX3, 7)) (q0 := 24) hE hS hW rfl rfl) rfl rfl hl.1 rfl (lv_room (Nat.le_of_ble_eq_true rfl)) dX10_hasReading_45 ⟨Nat.le_of_ble_eq_true rfl, Nat.le_of_ble_eq_true rfl⟩) hS (fun _ _ h => h) (fun _ h => h) (fun r45 S45 t H locs ht hvm hw hB hzz hkk hS => ?_)
    obtain ⟨er45, eS45⟩ := prj hw
    clear hw
    have hW : gW E M S45 H := by rw [← ht]; exact hB
    have hpS45 : S45.2.2 = S16.2.2 := by rw [eS45]; exact (qp_X3_show _ _ _ _)
    refine lv_if_eq (tgt := 55) hx hb dX10_hasReading_48 (by decide) (fun c48 => ?_) (fun c48 => ?_)
    · refine lv_iconst (v := 0) hx hb dX10_hasReading_55 (by decide) ?_
      exact W.zret (v := 0) hx hb hr rfl (fun t ht _ => ⟨⟨0, S45, rfl, by subst er42; first | (simp only [q_X10_hasReading, if_pos c19, if_pos c48, ← eS5, ← er16, ← eS16, ← er45, ← eS45]; done) | contradiction, by dsimp only; rw [ht]; exact hW⟩, hS.F ht⟩) hS.2.2 dX10_hasReading_56
    · refine lv_iconst (v := 1) hx hb dX10_hasReading_51 (by decide) ?_
      refine lv_goto (tgt := 56) hx hb dX10_hasReading_52 (by decide) ?_
      exact W.zret (v := 1) hx hb hr rfl (fun t ht _ => ⟨⟨1, S45, rfl, by subst er42; first | (simp only [q_X10_hasReading, if_pos c19, if_neg c48, ← eS5, ← er16, ← eS16, ← er45, ← eS45]; done) | contradiction, by dsimp only; rw [ht]; exact hW⟩, hS.F ht⟩) hS.2.2 dX10_hasReading_56
