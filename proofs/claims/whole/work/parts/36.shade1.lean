def q_X3_show_b7 (S : gSc) (p1 : Int32) (p2 : Int32) (p3 : Int32) : Nat → Int32 → Int32 → gSc → Int32 × gSc
  | 0, v4, v5, Z => (0, Z)
  | n + 1, v4, v5, Z => (if (Z.1 13 3) ≤ v5 then (0, Z) else (if p3 = 0 then (if v4 = (-2000000005) then (let x62 := v5 + 1; q_X3_show_b7 S p1 p2 p3 n v5 x62 Z) else (let r50 := (q_X3_showBetween Z v4 v5 (p1.toInt64) (p2.toInt64)).1; let S50 := (q_X3_showBetween Z v4 v5 (p1.toInt64) (p2.toInt64)).2; (if r50 = 0 then (let x62 := v5 + 1; q_X3_show_b7 S p1 p2 p3 n v5 x62 S50) else (1, S50)))) else (if (Z.1 16 (v5.toNatClampNeg)) = p2 then (if v4 = (-2000000005) then (let x62 := v5 + 1; q_X3_show_b7 S p1 p2 p3 n v5 x62 Z) else (let r50 := (q_X3_showBetween Z v4 v5 (p1.toInt64) (p2.toInt64)).1; let S50 := (q_X3_showBetween Z v4 v5 (p1.toInt64) (p2.toInt64)).2; (if r50 = 0 then (let x62 := v5 + 1; q_X3_show_b7 S p1 p2 p3 n v5 x62 S50) else (1, S50)))) else (let x62 := v5 + 1; q_X3_show_b7 S p1 p2 p3 n v4 x62 Z))))
def q_X3_show (S : gSc) (p1 : Int32) (p2 : Int32) (p3 : Int32) : Int32 × gSc := q_X3_show_b7 S p1 p2 p3 25 (-2000000005) 0 S
set_option maxHeartbeats 4000000 in
set_option maxRecDepth 100000 in
theorem c_X3_show (l : Launch) (E : gEE) (M : gSm) (S : gSc) (p1 : Int32) (p2 : Int32) (p3 : Int32) (hs0 : 0 ≤ (S.1 13 3).toInt) (hs : (S.1 13 3).toInt ≤ 24) : Met l yX3_show wsX3_show ({ frames := 2, cells := 0, slots := 0, locals := 60 }) (va_Pc [.ref (eC E 13), .int (p1), .int (p2), .int (p3)] (gP E M S)) (va_Qi (fun r (u : gSc) => (r, u) = q_X3_show S p1 p2 p3) (fun u t => gW E M u t.heap) (eA E)) 0 0 (eA E) := by
  refine Met.ofW (cc := cX3_show) (maxL := 6) (ret := (some .boolean)) (by decide) rfl ?_
  intro p e s m args below meth c s₁ B hml hv
  obtain ⟨rfl, hE, hW⟩ := hv
  have hx := B.exec
  have hb := B.bytes
  have hr := B.returns
  have hts := atoms_spec (ws := wsX3_show) B.pre
  have hown : s.vm.findClass RX3 = some m.cls := findClass_of_methodNamed B.named
  have hlocks := B.notSynchronized
  have hinX3 : ∀ w ∈ wsX30, w ∈ wsX3_show := by decide +kernel
  have hS : va_S (eA E) s.heap s.heap [] := va_S.rf
  have hl := lv_entry ([.ref (eC E 13), .int (p1), .int (p2), .int (p3)]) (n := 6) (Nat.le_of_ble_eq_true rfl)
  rw [lg_entry_eq]
  generalize (lg_sl ([.ref (eC E 13), .int (p1), .int (p2), .int (p3)]) ++ List.replicate (6 - (lg_sl ([.ref (eC E 13), .int (p1), .int (p2), .int (p3)])).length) Slot.unset).toArray = ls at hl ⊢
  have hl : lv_has ls 6 [(0, .ref (eC E 13)), (1, .int (p1)), (2, .int (p2)), (3, .int (p3))] := hl
  have hS : ∃ (H : Heap) (locs : List Loc), H = s.heap ∧ locs = [] ∧ gW E M S H ∧ va_S (eA E) s.heap H locs := ⟨_, _, rfl, rfl, hW, hS⟩
  clear hW
  obtain ⟨H, locs, eH, el, hW, hS⟩ := hS
  rw [← eH, ← el]
  clear eH el
  have L7 : ∀ n : Nat, ∀ (v4 : Int32) (v5 : Int32) (Z : gSc) (H : Heap) (locs : List Loc) (ls : Array Slot), ((0 ≤ v5.toInt ∧ v5.toInt ≤ 24 ∧ 24 < v5.toInt + n) ∧ 0 ≤ (Z.1 13 3).toInt ∧ (Z.1 13 3).toInt ≤ 24) → q_X3_show S p1 p2 p3 = q_X3_show_b7 S p1 p2 p3 n v4 v5 Z → gW E M Z H → va_S (eA E) s.heap H locs → lv_has ls 6 [(0, .ref (eC E 13)), (1, .int (p1)), (2, .int (p2)), (3, .int (p3)), (4, .int (v4)), (5, .int (v5))] → W p l e (headSpec wsX3_show ({ frames := 2, cells := 0, slots := 0, locals := 60 })).room s m ([.ref (eC E 13), .int (p1), .int (p2), .int (p3)] : List Value).toArray below meth c H locs 0 0 (MQ below (va_Qi (fun r (u : gSc) => (r, u) = q_X3_show S p1 p2 p3) (fun u t => gW E M u t.heap) (eA E)) ([.ref (eC E 13), .int (p1), .int (p2), .int (p3)] : List Value).toArray s 0 0 (eA E)) (F0 m 7 ls []) := by
    intro n
    induction n with
    | zero =>
      intro v4 v5 Z H locs ls hi hq hW hS hl
      exact absurd hi.1.2.2 (by have := hi.1.2.1; omega)
    | succ n ih =>
      intro v4 v5 Z H locs ls hi hq hW hS hl
      refine lv_iload hx hb dX3_show_7 (lv_at hl 5 rfl) ?_
      refine lv_aload_n hx hb dX3_show_9 rfl (lv_at hl 0 rfl) ?_
      refine va_get (D := eD E) (cl := vwCl) (tys := eT E) (ci := 3) (C := RX3) (T := TX3) (N := 7) (v := .int (Z.1 13 3)) hx hb hts hinX3 hown hE.1 hW.1 24 rfl rfl 3 (by decide) (hts (.fieldLink RX3 21 "DialGarden$Marks" "size" "I") (by decide +kernel)) (fun _ h9 => h9) rfl dX3_show_10 ?_
      refine lv_icmp_ge (tgt := 68) hx hb dX3_show_13 (by decide) (fun c13 => ?_) (fun c13 => ?_)
      · refine lv_iconst (v := 0) hx hb dX3_show_68 (by decide) ?_
        exact W.zret (v := 0) hx hb hr rfl (fun t ht _ => ⟨⟨0, Z, rfl, by rw [hq]; first | (simp only [q_X3_show_b7, if_pos c13]; done) | contradiction, by dsimp only; rw [ht]; exact hW⟩, hS.F ht⟩) hS.2.2 dX3_show_69
      · refine lv_iload_n hx hb dX3_show_16 rfl (lv_at hl 3 rfl) ?_
        refine lv_if_eq (tgt := 34) hx hb dX3_show_17 (by decide) (fun c17 => ?_) (fun c17 => ?_)
        · refine lv_iload hx hb dX3_show_34 (lv_at hl 4 rfl) ?_
          refine lv_ldc hx hb (v := (-2000000005)) hown (hts (.constant RX3 34 (-2000000005)) (by decide +kernel)) dX3_show_36 ?_
          refine lv_icmp_eq (tgt := 58) hx hb dX3_show_38 (by decide) (fun c38 => ?_) (fun c38 => ?_)
          · refine lv_iload hx hb dX3_show_58 (lv_at hl 5 rfl) ?_
            refine lv_istore (lv' := [(4, .int (v5)), (0, .ref (eC E 13)), (1, .int (p1)), (2, .int (p2)), (3, .int (p3)), (5, .int (v5))]) hx hb dX3_show_60 hl (by decide) rfl (fun ls hl => ?_)
            obtain ⟨x62, ex62⟩ : ∃ y : Int32, y = v5 + 1 := ⟨_, rfl⟩
            refine lv_iinc (v := x62) (lv' := [(5, .int (x62)), (4, .int (v5)), (0, .ref (eC E 13)), (1, .int (p1)), (2, .int (p2)), (3, .int (p3))]) hx hb dX3_show_62 hl (k := 5) rfl (by rw [ex62]; rfl) (by decide) rfl (fun ls hl => ?_)
            refine lv_goto (tgt := 7) hx hb dX3_show_65 (by decide) ?_
            exact ih _ _ _ _ _ _ (by first | exact ⟨sw_st hi c13 ex62, hi.2⟩ | exact ⟨sw_st hi c13 ex62, by rw [eS50, sb_c]; exact hi.2⟩) (by rw [hq]; subst ex62; first | (simp only [q_X3_show_b7, if_neg c13, if_pos c17, if_pos c38]; done) | contradiction) hW hS (lv_sub hl [2, 3, 4, 5, 1, 0] rfl)
          · refine lv_aload_n hx hb dX3_show_41 rfl (lv_at hl 0 rfl) ?_
            refine lv_iload hx hb dX3_show_42 (lv_at hl 4 rfl) ?_
            refine lv_iload hx hb dX3_show_44 (lv_at hl 5 rfl) ?_
            refine lv_iload_n hx hb dX3_show_46 rfl (lv_at hl 1 rfl) ?_
            refine lv_i2l (v := p1.toInt64) hx hb dX3_show_47 rfl ?_
            refine lv_iload_n hx hb dX3_show_48 rfl (lv_at hl 2 rfl) ?_
            refine lv_i2l (v := p2.toInt64) hx hb dX3_show_49 rfl ?_
            refine va_calli (va_runV (As := [.int (v4), .int (v5), .long (p1.toInt64), .long (p2.toInt64)]) (rest := []) ⟨hx, hb, hml, hown, hts⟩ (c_X3_showBetween l E M Z v4 v5 (p1.toInt64) (p2.toInt64) hi.2.1 hi.2.2) (cwV 4 hts gX3_show_X3_showBetween rfl rfl rfl (by decide +kernel) ⟨Nat.le_of_ble_eq_true rfl, Nat.le_of_ble_eq_true rfl⟩) (gP.V (ci := 3) (q := (RX3, TX3, 7)) (q0 := 24) hE hS hW rfl rfl) rfl rfl hl.1 rfl (lv_room (Nat.le_of_ble_eq_true rfl)) dX3_show_50 ⟨Nat.le_of_ble_eq_true rfl, Nat.le_of_ble_eq_true rfl⟩) hS (fun _ _ h => h) (fun _ h => h) (fun r50 S50 t H locs ht hvm hw hB hz1 hk1 hS => ?_)
            obtain ⟨er50, eS50⟩ := prj hw
            clear hw
            have hW : gW E M S50 H := by rw [← ht]; exact hB
            have hpS50 : S50.2.2 = Z.2.2 := by rw [eS50]; exact (qp_X3_showBetween _ _ _ _ _)
            refine lv_if_eq (tgt := 58) hx hb dX3_show_53 (by decide) (fun c53 => ?_) (fun c53 => ?_)
            · refine lv_iload hx hb dX3_show_58 (lv_at hl 5 rfl) ?_
              refine lv_istore (lv' := [(4, .int (v5)), (0, .ref (eC E 13)), (1, .int (p1)), (2, .int (p2)), (3, .int (p3)), (5, .int (v5))]) hx hb dX3_show_60 hl (by decide) rfl (fun ls hl => ?_)
              obtain ⟨x62, ex62⟩ : ∃ y : Int32, y = v5 + 1 := ⟨_, rfl⟩
              refine lv_iinc (v := x62) (lv' := [(5, .int (x62)), (4, .int (v5)), (0, .ref (eC E 13)), (1, .int (p1)), (2, .int (p2)), (3, .int (p3))]) hx hb dX3_show_62 hl (k := 5) rfl (by rw [ex62]; rfl) (by decide) rfl (fun ls hl => ?_)
              refine lv_goto (tgt := 7) hx hb dX3_show_65 (by decide) ?_
              exact ih _ _ _ _ _ _ (by first | exact ⟨sw_st hi c13 ex62, hi.2⟩ | exact ⟨sw_st hi c13 ex62, by rw [eS50, sb_c]; exact hi.2⟩) (by rw [hq]; subst ex62; subst eS50; subst er50; first | (simp only [q_X3_show_b7, if_neg c13, if_pos c17, if_neg c38, if_pos c53]; done) | contradiction) hW hS (lv_sub hl [2, 3, 4, 5, 1, 0] rfl)
            · refine lv_iconst (v := 1) hx hb dX3_show_56 (by decide) ?_
              exact W.zret (v := 1) hx hb hr rfl (fun t ht _ => ⟨⟨1, S50, rfl, by rw [hq]; subst eS50; subst er50; first | (simp only [q_X3_show_b7, if_neg c13, if_pos c17, if_neg c38, if_neg c53]; done) | contradiction, by dsimp only; rw [ht]; exact hW⟩, hS.F ht⟩) hS.2.2 dX3_show_57
        · refine lv_aload_n hx hb dX3_show_20 rfl (lv_at hl 0 rfl) ?_
          refine va_get (D := eD E) (cl := vwCl) (tys := eT E) (ci := 3) (C := RX3) (T := TX3) (N := 7) (v := .ref (eC E 16)) hx hb hts hinX3 hown hE.1 hW.1 24 rfl rfl 2 (by decide) (hts (.fieldLink RX3 18 "DialGarden$Marks" "ys" "[I") (by decide +kernel)) (fun _ h9 => h9) rfl dX3_show_21 ?_
          refine lv_iload hx hb dX3_show_24 (lv_at hl 5 rfl) ?_
          refine va_iald (D := eD E) (cl := vwCl) (tys := eT E) (f := Z.1 16) hx hb hE.1 hW.1 27 0 rfl rfl (sw_in hi c13) dX3_show_26 ?_
          refine lv_iload_n hx hb dX3_show_27 rfl (lv_at hl 2 rfl) ?_
          refine lv_icmp_eq (tgt := 34) hx hb dX3_show_28 (by decide) (fun c28 => ?_) (fun c28 => ?_)
          · refine lv_iload hx hb dX3_show_34 (lv_at hl 4 rfl) ?_
            refine lv_ldc hx hb (v := (-2000000005)) hown (hts (.constant RX3 34 (-2000000005)) (by decide +kernel)) dX3_show_36 ?_
            refine lv_icmp_eq (tgt := 58) hx hb dX3_show_38 (by decide) (fun c38 => ?_) (fun c38 => ?_)
            · refine lv_iload hx hb dX3_show_58 (lv_at hl 5 rfl) ?_
              refine lv_istore (lv' := [(4, .int (v5)), (0, .ref (eC E 13)), (1, .int (p1)), (2, .int (p2)), (3, .int (p3)), (5, .int (v5))]) hx hb dX3_show_60 hl (by decide) rfl (fun ls hl => ?_)
              obtain ⟨x62, ex62⟩ : ∃ y : Int32, y = v5 + 1 := ⟨_, rfl⟩
              refine lv_iinc (v := x62) (lv' := [(5, .int (x62)), (4, .int (v5)), (0, .ref (eC E 13)), (1, .int (p1)), (2, .int (p2)), (3, .int (p3))]) hx hb dX3_show_62 hl (k := 5) rfl (by rw [ex62]; rfl) (by decide) rfl (fun ls hl => ?_)
              refine lv_goto (tgt := 7) hx hb dX3_show_65 (by decide) ?_
              exact ih _ _ _ _ _ _ (by first | exact ⟨sw_st hi c13 ex62, hi.2⟩ | exact ⟨sw_st hi c13 ex62, by rw [eS50, sb_c]; exact hi.2⟩) (by rw [hq]; subst ex62; first | (simp only [q_X3_show_b7, if_neg c13, if_neg c17, if_pos c28, if_pos c38]; done) | contradiction) hW hS (lv_sub hl [2, 3, 4, 5, 1, 0] rfl)
            · refine lv_aload_n hx hb dX3_show_41 rfl (lv_at hl 0 rfl) ?_
              refine lv_iload hx hb dX3_show_42 (lv_at hl 4 rfl) ?_
              refine lv_iload hx hb dX3_show_44 (lv_at hl 5 rfl) ?_
              refine lv_iload_n hx hb dX3_show_46 rfl (lv_at hl 1 rfl) ?_
              refine lv_i2l (v := p1.toInt64) hx hb dX3_show_47 rfl ?_
              refine lv_iload_n hx hb dX3_show_48 rfl (lv_at hl 2 rfl) ?_
              refine lv_i2l (v := p2.toInt64) hx hb dX3_show_49 rfl ?_
              refine va_calli (va_runV (As := [.int (v4), .int (v5), .long (p1.toInt64), .long (p2.toInt64)]) (rest := []) ⟨hx, hb, hml, hown, hts⟩ (c_X3_showBetween l E M Z v4 v5 (p1.toInt64) (p2.toInt64) hi.2.1 hi.2.2) (cwV 4 hts gX3_show_X3_showBetween rfl rfl rfl (by decide +kernel) ⟨Nat.le_of_ble_eq_true rfl, Nat.le_of_ble_eq_true rfl⟩) (gP.V (ci := 3) (q := (RX3, TX3, 7)) (q0 := 24) hE hS hW rfl rfl) rfl rfl hl.1 rfl (lv_room (Nat.le_of_ble_eq_true rfl)) dX3_show_50 ⟨Nat.le_of_ble_eq_true rfl, Nat.le_of_ble_eq_true rfl⟩) hS (fun _ _ h => h) (fun _ h => h) (fun r50 S50 t H locs ht hvm hw hB hz1 hk1 hS => ?_)
              obtain ⟨er50, eS50⟩ := prj hw
              clear hw
              have hW : gW E M S50 H := by rw [← ht]; exact hB
              have hpS50 : S50.2.2 = Z.2.2 := by rw [eS50]; exact (qp_X3_showBetween _ _ _ _ _)
              refine lv_if_eq (tgt := 58) hx hb dX3_show_53 (by decide) (fun c53 => ?_) (fun c53 => ?_)
              · refine lv_iload hx hb dX3_show_58 (lv_at hl 5 rfl) ?_
                refine lv_istore (lv' := [(4, .int (v5)), (0, .ref (eC E 13)), (1, .int (p1)), (2, .int (p2)), (3, .int (p3)), (5, .int (v5))]) hx hb dX3_show_60 hl (by decide) rfl (fun ls hl => ?_)
                obtain ⟨x62, ex62⟩ : ∃ y : Int32, y = v5 + 1 := ⟨_, rfl⟩
                refine lv_iinc (v := x62) (lv' := [(5, .int (x62)), (4, .int (v5)), (0, .ref (eC E 13)), (1, .int (p1)), (2, .int (p2)), (3, .int (p3))]) hx hb dX3_show_62 hl (k := 5) rfl (by rw [ex62]; rfl) (by decide) rfl (fun ls hl => ?_)
                refine lv_goto (tgt := 7) hx hb dX3_show_65 (by decide) ?_
                exact ih _ _ _ _ _ _ (by first | exact ⟨sw_st hi c13 ex62, hi.2⟩ | exact ⟨sw_st hi c13 ex62, by rw [eS50, sb_c]; exact hi.2⟩) (by rw [hq]; subst ex62; subst eS50; subst er50; first | (simp only [q_X3_show_b7, if_neg c13, if_neg c17, if_pos c28, if_neg c38, if_pos c53]; done) | contradiction) hW hS (lv_sub hl [2, 3, 4, 5, 1, 0] rfl)
              · refine lv_iconst (v := 1) hx hb dX3_show_56 (by decide) ?_
                exact W.zret (v := 1) hx hb hr rfl (fun t ht _ => ⟨⟨1, S50, rfl, by rw [hq]; subst eS50; subst er50; first | (simp only [q_X3_show_b7, if_neg c13, if_neg c17, if_pos c28, if_neg c38, if_neg c53]; done) | contradiction, by dsimp only; rw [ht]; exact hW⟩, hS.F ht⟩) hS.2.2 dX3_show_57
          · refine lv_goto (tgt := 62) hx hb dX3_show_31 (by decide) ?_
            obtain ⟨x62, ex62⟩ : ∃ y : Int32, y = v5 + 1 := ⟨_, rfl⟩
            refine lv_iinc (v := x62) (lv' := [(5, .int (x62)), (0, .ref (eC E 13)), (1, .int (p1)), (2, .int (p2)), (3, .int (p3)), (4, .int (v4))]) hx hb dX3_show_62 hl (k := 5) rfl (by rw [ex62]; rfl) (by decide) rfl (fun ls hl => ?_)
            refine lv_goto (tgt := 7) hx hb dX3_show_65 (by decide) ?_
            exact ih _ _ _ _ _ _ (by first | exact ⟨sw_st hi c13 ex62, hi.2⟩ | exact ⟨sw_st hi c13 ex62, by rw [eS50, sb_c]; exact hi.2⟩) (by rw [hq]; subst ex62; first | (simp only [q_X3_show_b7, if_neg c13, if_neg c17, if_neg c28]; done) | contradiction) hW hS (lv_sub hl [1, 2, 3, 4, 5, 0] rfl)
  refine lv_ldc hx hb (v := (-2000000005)) hown (hts (.constant RX3 34 (-2000000005)) (by decide +kernel)) dX3_show_0 ?_
  refine lv_istore (lv' := [(4, .int ((-2000000005))), (0, .ref (eC E 13)), (1, .int (p1)), (2, .int (p2)), (3, .int (p3))]) hx hb dX3_show_2 hl (by decide) rfl (fun ls hl => ?_)
  refine lv_iconst (v := 0) hx hb dX3_show_4 (by decide) ?_
  refine lv_istore (lv' := [(5, .int (0)), (4, .int ((-2000000005))), (0, .ref (eC E 13)), (1, .int (p1)), (2, .int (p2)), (3, .int (p3))]) hx hb dX3_show_5 hl (by decide) rfl (fun ls hl => ?_)
  exact L7 25 _ _ _ _ _ _ (by exact ⟨by decide, hs0, hs⟩) (by first | (simp only [q_X3_show]; done) | contradiction) hW hS (lv_sub hl [2, 3, 4, 5, 1, 0] rfl)
theorem qp_sw_b (S : gSc) (p1 p2 p3 : Int32) : ∀ (n : Nat) (v4 v5 : Int32) (Z : gSc), (q_X3_show_b7 S p1 p2 p3 n v4 v5 Z).2.2.2 = Z.2.2
  | 0, _, _, _ => rfl
  | n + 1, v4, v5, Z => by
    rw [q_X3_show_b7]
    dsimp only
    (repeat' split) <;> first | (rw [qp_sw_b S p1 p2 p3 n]; done) | (rw [qp_sw_b S p1 p2 p3 n, qp_X3_showBetween]; done) | (rw [qp_X3_showBetween]; done) | rfl
theorem qp_X3_show (S : gSc) (p1 p2 p3 : Int32) : (q_X3_show S p1 p2 p3).2.2.2 = S.2.2 := by
  unfold q_X3_show
  exact qp_sw_b S p1 p2 p3 _ _ _ _

def q_X6_setRows (S : gSc) (p1 : Nat) (p2 : Int32) : gSc := (let r1 := q_X10_sineOf p2; (let r6 := q_X10_cosineOf p2; (let r13 := q_X1_isA S p1 2; (if r13 = 0 then (let r100 := q_X1_isA S p1 1; (if r100 = 0 then (let S153 := q_X5_set_8 S 0 0 16384; (let S165 := q_X5_set_9 S153 16384 0 0; (let S177 := q_X5_set_10 S165 0 16384 0; S177))) else (let S114 := q_X5_set_8 S r1 r6 0; (let S126 := q_X5_set_9 S114 r6 (-r1) 0; (let S138 := q_X5_set_10 S126 0 0 16384; S138))))) else (let r23 := q_X10_sineOf (S.2.2.2.2 p1 5); (let r32 := q_X10_cosineOf (S.2.2.2.2 p1 5); (let r44 := q_X10_dot r23 r1; (let r51 := q_X10_dot r23 r6; (let S56 := q_X5_set_8 S r44 r51 r32; (let S68 := q_X5_set_9 S56 r6 (-r1) 0; (let r78 := q_X10_dot r32 r1; (let r86 := q_X10_dot r32 r6; (let S92 := q_X5_set_10 S68 (-r78) (-r86) r23; S92)))))))))))))
set_option maxHeartbeats 4000000 in
set_option maxRecDepth 100000 in
theorem c_X6_setRows (l : Launch) (E : gEE) (M : gSm) (S : gSc) (p1 : Nat) (p2 : Int32) (hL1 : p1 ∈ S.2.2.1) (hk1 : S.2.2.2.1 p1 = 1) : Met l yX6_setRows wsX6_setRows ({ frames := 3, cells := 0, slots := 0, locals := 66 }) (va_Pc [.ref (eC E 7), .ref (p1), .int (p2)] (gP E M S)) (va_Qv (fun u : gSc => u = q_X6_setRows S p1 p2) (fun u t => gW E M u t.heap) (eA E)) 0 0 (eA E) := by
  refine Met.ofW (cc := cX6_setRows) (maxL := 7) (ret := none) (by decide) rfl ?_
  intro p e s m args below meth c s₁ B hml hv
  obtain ⟨rfl, hE, hW⟩ := hv
  have hx := B.exec
  have hb := B.bytes
  have hr := B.returns
  have hts := atoms_spec (ws := wsX6_setRows) B.pre
  have hown : s.vm.findClass RX6 = some m.cls := findClass_of_methodNamed B.named
  have hlocks := B.notSynchronized
  have hinX1 : ∀ w ∈ wsX10, w ∈ wsX6_setRows := by decide +kernel
  have hinX6 : ∀ w ∈ wsX60, w ∈ wsX6_setRows := by decide +kernel
  have hS : va_S (eA E) s.heap s.heap [] := va_S.rf
  have hl := lv_entry ([.ref (eC E 7), .ref (p1), .int (p2)]) (n := 7) (Nat.le_of_ble_eq_true rfl)
  rw [lg_entry_eq]
  generalize (lg_sl ([.ref (eC E 7), .ref (p1), .int (p2)]) ++ List.replicate (7 - (lg_sl ([.ref (eC E 7), .ref (p1), .int (p2)])).length) Slot.unset).toArray = ls at hl ⊢
  have hl : lv_has ls 7 [(0, .ref (eC E 7)), (1, .ref (p1)), (2, .int (p2))] := hl
  have hS : ∃ (H : Heap) (locs : List Loc), H = s.heap ∧ locs = [] ∧ gW E M S H ∧ va_S (eA E) s.heap H locs := ⟨_, _, rfl, rfl, hW, hS⟩
  clear hW
  obtain ⟨H, locs, eH, el, hW, hS⟩ := hS
  rw [← eH, ← el]
  clear eH el
  refine lv_iload_n hx hb dX6_setRows_0 rfl (lv_at hl 2 rfl) ?_
  refine k_Si (va_runSN (As := [.int (p2)]) (rest := []) ⟨hx, hb, hml, hown, hts⟩ (c_X10_sineOf l p2) ⟨va_cnB 1 hts gX6_setRows_X10_sineOf_n81 rfl rfl rfl (hE.2.2.1 (.methodLinkNest "DialGarden$Shade" 81 ⟨"DialGarden", "sineOf", "(I)I"⟩ "DialGarden") (by decide +kernel)) (hts (.initialized RX10) (by decide +kernel)) (by decide +kernel) ⟨Nat.le_of_ble_eq_true rfl, Nat.le_of_ble_eq_true rfl⟩, hts (.static yX10_sineOf) (by decide +kernel), trivial⟩ gP0 rfl rfl hl.1 rfl (lv_room (Nat.le_of_ble_eq_true rfl)) dX6_setRows_1 ⟨Nat.le_of_ble_eq_true rfl, Nat.le_of_ble_eq_true rfl⟩) (fun r1 er1 => ?_)
  refine lv_istore_n (lv' := [(3, .int (r1)), (0, .ref (eC E 7)), (1, .ref (p1)), (2, .int (p2))]) hx hb dX6_setRows_4 rfl hl (by decide) rfl (fun ls hl => ?_)
  refine lv_iload_n hx hb dX6_setRows_5 rfl (lv_at hl 3 rfl) ?_
  refine k_Si (va_runSN (As := [.int (p2)]) (rest := []) ⟨hx, hb, hml, hown, hts⟩ (c_X10_cosineOf l p2) ⟨va_cnB 1 hts gX6_setRows_X10_cosineOf_n85 rfl rfl rfl (hE.2.2.1 (.methodLinkNest "DialGarden$Shade" 85 ⟨"DialGarden", "cosineOf", "(I)I"⟩ "DialGarden") (by decide +kernel)) (hts (.initialized RX10) (by decide +kernel)) (by decide +kernel) ⟨Nat.le_of_ble_eq_true rfl, Nat.le_of_ble_eq_true rfl⟩, hts (.static yX10_cosineOf) (by decide +kernel), trivial⟩ gP0 rfl rfl hl.1 rfl (lv_room (Nat.le_of_ble_eq_true rfl)) dX6_setRows_6 ⟨Nat.le_of_ble_eq_true rfl, Nat.le_of_ble_eq_true rfl⟩) (fun r6 er6 => ?_)
  refine lv_istore (lv' := [(4, .int (r6)), (3, .int (r1)), (0, .ref (eC E 7)), (1, .ref (p1)), (2, .int (p2))]) hx hb dX6_setRows_9 hl (by decide) rfl (fun ls hl => ?_)
  refine lv_aload_n hx hb dX6_setRows_11 rfl (lv_at hl 3 rfl) ?_
  refine lv_iconst (v := 2) hx hb dX6_setRows_12 (by decide) ?_
  obtain ⟨k13, hk13⟩ := wJ_d E M (S := S) hL1 hk1
  refine k_Si (va_runV (As := [.int (2)]) (rest := []) ⟨hx, hb, hml, hown, hts⟩ (c_X1_isA l E M S p1 2 hL1 hk1) (cwV 1 hts gX6_setRows_X1_isA rfl rfl rfl (by decide +kernel) ⟨Nat.le_of_ble_eq_true rfl, Nat.le_of_ble_eq_true rfl⟩) (gP.V (ci := 1) (q := (RX1, TX1, 7)) hE hS hW rfl hk13) rfl rfl hl.1 rfl (lv_room (Nat.le_of_ble_eq_true rfl)) dX6_setRows_13 ⟨Nat.le_of_ble_eq_true rfl, Nat.le_of_ble_eq_true rfl⟩) (fun r13 er13 => ?_)
  refine lv_if_eq (tgt := 98) hx hb dX6_setRows_16 (by decide) (fun c16 => ?_) (fun c16 => ?_)
  · refine lv_aload_n hx hb dX6_setRows_98 rfl (lv_at hl 3 rfl) ?_
    refine lv_iconst (v := 1) hx hb dX6_setRows_99 (by decide) ?_
    obtain ⟨k100, hk100⟩ := wJ_d E M (S := S) hL1 hk1
    refine k_Si (va_runV (As := [.int (1)]) (rest := []) ⟨hx, hb, hml, hown, hts⟩ (c_X1_isA l E M S p1 1 hL1 hk1) (cwV 1 hts gX6_setRows_X1_isA rfl rfl rfl (by decide +kernel) ⟨Nat.le_of_ble_eq_true rfl, Nat.le_of_ble_eq_true rfl⟩) (gP.V (ci := 1) (q := (RX1, TX1, 7)) hE hS hW rfl hk100) rfl rfl hl.1 rfl (lv_room (Nat.le_of_ble_eq_true rfl)) dX6_setRows_100 ⟨Nat.le_of_ble_eq_true rfl, Nat.le_of_ble_eq_true rfl⟩) (fun r100 er100 => ?_)
    refine lv_if_eq (tgt := 144) hx hb dX6_setRows_103 (by decide) (fun c103 => ?_) (fun c103 => ?_)
    · refine lv_aload_n hx hb dX6_setRows_144 rfl (lv_at hl 2 rfl) ?_
      refine va_get (D := eD E) (cl := vwCl) (tys := eT E) (ci := 6) (C := RX6) (T := TX6) (N := 13) (v := .ref (eC E 8)) hx hb hts hinX6 hown hE.1 hW.1 18 rfl rfl 0 (by decide) (hts (.fieldLink RX6 12 "DialGarden$Shade" "face" "LDialGarden$Row;") (by decide +kernel)) (fun _ h9 => h9) rfl dX6_setRows_145 ?_
      refine lv_iconst (v := 0) hx hb dX6_setRows_148 (by decide) ?_
      refine lv_iconst (v := 0) hx hb dX6_setRows_149 (by decide) ?_
      refine lv_sipush (v := 16384) hx hb dX6_setRows_150 (by decide) ?_
      refine va_callv (va_runV (As := [.int (0), .int (0), .int (16384)]) (rest := []) ⟨hx, hb, hml, hown, hts⟩ (c_X5_set_8 l E M S 0 0 16384) (cwV 3 hts gX6_setRows_X5_set rfl rfl rfl (by decide +kernel) ⟨Nat.le_of_ble_eq_true rfl, Nat.le_of_ble_eq_true rfl⟩) (gP.V (ci := 5) (q := (RX5, TX5, 3)) (q0 := 19) hE hS hW rfl rfl) rfl rfl hl.1 rfl (lv_room (Nat.le_of_ble_eq_true rfl)) dX6_setRows_153 ⟨Nat.le_of_ble_eq_true rfl, Nat.le_of_ble_eq_true rfl⟩) hS (fun _ _ h => h) (fun _ h => h) (fun S153 t H locs ht hvm hw hB hz1 hk1 hS => ?_)
      have eS153 : S153 = q_X5_set_8 S 0 0 16384 := hw
      clear hw
      have hW : gW E M S153 H := by rw [← ht]; exact hB
      have hpS153 : S153.2.2 = S.2.2 := by rw [eS153]; exact (qp_X5_set_8 _ _ _ _)
      refine lv_aload_n hx hb dX6_setRows_156 rfl (lv_at hl 2 rfl) ?_
      refine va_get (D := eD E) (cl := vwCl) (tys := eT E) (ci := 6) (C := RX6) (T := TX6) (N := 13) (v := .ref (eC E 9)) hx hb hts hinX6 hown hE.1 hW.1 18 rfl rfl 1 (by decide) (hts (.fieldLink RX6 18 "DialGarden$Shade" "across" "LDialGarden$Row;") (by decide +kernel)) (fun _ h9 => h9) rfl dX6_setRows_157 ?_
      refine lv_sipush (v := 16384) hx hb dX6_setRows_160 (by decide) ?_
      refine lv_iconst (v := 0) hx hb dX6_setRows_163 (by decide) ?_
      refine lv_iconst (v := 0) hx hb dX6_setRows_164 (by decide) ?_
      refine va_callv (va_runV (As := [.int (16384), .int (0), .int (0)]) (rest := []) ⟨hx, hb, hml, hown, hts⟩ (c_X5_set_9 l E M S153 16384 0 0) (cwV 3 hts gX6_setRows_X5_set rfl rfl rfl (by decide +kernel) ⟨Nat.le_of_ble_eq_true rfl, Nat.le_of_ble_eq_true rfl⟩) (gP.V (ci := 5) (q := (RX5, TX5, 3)) (q0 := 20) hE hS hW rfl rfl) rfl rfl hl.1 rfl (lv_room (Nat.le_of_ble_eq_true rfl)) dX6_setRows_165 ⟨Nat.le_of_ble_eq_true rfl, Nat.le_of_ble_eq_true rfl⟩) hS (fun _ _ h => h) (fun _ h => h) (fun S165 t H locs ht hvm hw hB hz1 hk1 hS => ?_)
      have eS165 : S165 = q_X5_set_9 S153 16384 0 0 := hw
      clear hw
      have hW : gW E M S165 H := by rw [← ht]; exact hB
      have hpS165 : S165.2.2 = S153.2.2 := by rw [eS165]; exact (qp_X5_set_9 _ _ _ _)
      refine lv_aload_n hx hb dX6_setRows_168 rfl (lv_at hl 2 rfl) ?_
      refine va_get (D := eD E) (cl := vwCl) (tys := eT E) (ci := 6) (C := RX6) (T := TX6) (N := 13) (v := .ref (eC E 10)) hx hb hts hinX6 hown hE.1 hW.1 18 rfl rfl 2 (by decide) (hts (.fieldLink RX6 21 "DialGarden$Shade" "along" "LDialGarden$Row;") (by decide +kernel)) (fun _ h9 => h9) rfl dX6_setRows_169 ?_
      refine lv_iconst (v := 0) hx hb dX6_setRows_172 (by decide) ?_
      refine lv_sipush (v := 16384) hx hb dX6_setRows_173 (by decide) ?_
      refine lv_iconst (v := 0) hx hb dX6_setRows_176 (by decide) ?_
      refine va_callv (va_runV (As := [.int (0), .int (16384), .int (0)]) (rest := []) ⟨hx, hb, hml, hown, hts⟩ (c_X5_set_10 l E M S165 0 16384 0) (cwV 3 hts gX6_setRows_X5_set rfl rfl rfl (by decide +kernel) ⟨Nat.le_of_ble_eq_true rfl, Nat.le_of_ble_eq_true rfl⟩) (gP.V (ci := 5) (q := (RX5, TX5, 3)) (q0 := 21) hE hS hW rfl rfl) rfl rfl hl.1 rfl (lv_room (Nat.le_of_ble_eq_true rfl)) dX6_setRows_177 ⟨Nat.le_of_ble_eq_true rfl, Nat.le_of_ble_eq_true rfl⟩) hS (fun _ _ h => h) (fun _ h => h) (fun S177 t H locs ht hvm hw hB hz1 hk1 hS => ?_)
      have eS177 : S177 = q_X5_set_10 S165 0 16384 0 := hw
      clear hw
      have hW : gW E M S177 H := by rw [← ht]; exact hB
      have hpS177 : S177.2.2 = S165.2.2 := by rw [eS177]; exact (qp_X5_set_10 _ _ _ _)
      exact W.vret hx hb hr (fun t ht _ => ⟨⟨S177, rfl, by subst eS177; subst eS165; subst eS153; subst er100; subst er13; subst er6; subst er1; first | (simp only [q_X6_setRows, if_pos c16, if_pos c103]; done) | contradiction, by dsimp only; rw [ht]; exact hW⟩, hS.F ht⟩) hS.2.2 dX6_setRows_180
    · refine lv_aload_n hx hb dX6_setRows_106 rfl (lv_at hl 2 rfl) ?_
      refine va_get (D := eD E) (cl := vwCl) (tys := eT E) (ci := 6) (C := RX6) (T := TX6) (N := 13) (v := .ref (eC E 8)) hx hb hts hinX6 hown hE.1 hW.1 18 rfl rfl 0 (by decide) (hts (.fieldLink RX6 12 "DialGarden$Shade" "face" "LDialGarden$Row;") (by decide +kernel)) (fun _ h9 => h9) rfl dX6_setRows_107 ?_
      refine lv_iload_n hx hb dX6_setRows_110 rfl (lv_at hl 1 rfl) ?_
      refine lv_iload hx hb dX6_setRows_111 (lv_at hl 0 rfl) ?_
      refine lv_iconst (v := 0) hx hb dX6_setRows_113 (by decide) ?_
      refine va_callv (va_runV (As := [.int (r1), .int (r6), .int (0)]) (rest := []) ⟨hx, hb, hml, hown, hts⟩ (c_X5_set_8 l E M S r1 r6 0) (cwV 3 hts gX6_setRows_X5_set rfl rfl rfl (by decide +kernel) ⟨Nat.le_of_ble_eq_true rfl, Nat.le_of_ble_eq_true rfl⟩) (gP.V (ci := 5) (q := (RX5, TX5, 3)) (q0 := 19) hE hS hW rfl rfl) rfl rfl hl.1 rfl (lv_room (Nat.le_of_ble_eq_true rfl)) dX6_setRows_114 ⟨Nat.le_of_ble_eq_true rfl, Nat.le_of_ble_eq_true rfl⟩) hS (fun _ _ h => h) (fun _ h => h) (fun S114 t H locs ht hvm hw hB hz1 hk1 hS => ?_)
      have eS114 : S114 = q_X5_set_8 S r1 r6 0 := hw
      clear hw
      have hW : gW E M S114 H := by rw [← ht]; exact hB
      have hpS114 : S114.2.2 = S.2.2 := by rw [eS114]; exact (qp_X5_set_8 _ _ _ _)
      refine lv_aload_n hx hb dX6_setRows_117 rfl (lv_at hl 2 rfl) ?_
      refine va_get (D := eD E) (cl := vwCl) (tys := eT E) (ci := 6) (C := RX6) (T := TX6) (N := 13) (v := .ref (eC E 9)) hx hb hts hinX6 hown hE.1 hW.1 18 rfl rfl 1 (by decide) (hts (.fieldLink RX6 18 "DialGarden$Shade" "across" "LDialGarden$Row;") (by decide +kernel)) (fun _ h9 => h9) rfl dX6_setRows_118 ?_
      refine lv_iload hx hb dX6_setRows_121 (lv_at hl 0 rfl) ?_
      refine lv_iload_n hx hb dX6_setRows_123 rfl (lv_at hl 1 rfl) ?_
      refine lv_ineg hx hb dX6_setRows_124 ?_
      refine lv_iconst (v := 0) hx hb dX6_setRows_125 (by decide) ?_
      refine va_callv (va_runV (As := [.int (r6), .int (-r1), .int (0)]) (rest := []) ⟨hx, hb, hml, hown, hts⟩ (c_X5_set_9 l E M S114 r6 (-r1) 0) (cwV 3 hts gX6_setRows_X5_set rfl rfl rfl (by decide +kernel) ⟨Nat.le_of_ble_eq_true rfl, Nat.le_of_ble_eq_true rfl⟩) (gP.V (ci := 5) (q := (RX5, TX5, 3)) (q0 := 20) hE hS hW rfl rfl) rfl rfl hl.1 rfl (lv_room (Nat.le_of_ble_eq_true rfl)) dX6_setRows_126 ⟨Nat.le_of_ble_eq_true rfl, Nat.le_of_ble_eq_true rfl⟩) hS (fun _ _ h => h) (fun _ h => h) (fun S126 t H locs ht hvm hw hB hz1 hk1 hS => ?_)
      have eS126 : S126 = q_X5_set_9 S114 r6 (-r1) 0 := hw
      clear hw
      have hW : gW E M S126 H := by rw [← ht]; exact hB
      have hpS126 : S126.2.2 = S114.2.2 := by rw [eS126]; exact (qp_X5_set_9 _ _ _ _)
      refine lv_aload_n hx hb dX6_setRows_129 rfl (lv_at hl 2 rfl) ?_
      refine va_get (D := eD E) (cl := vwCl) (tys := eT E) (ci := 6) (C := RX6) (T := TX6) (N := 13) (v := .ref (eC E 10)) hx hb hts hinX6 hown hE.1 hW.1 18 rfl rfl 2 (by decide) (hts (.fieldLink RX6 21 "DialGarden$Shade" "along" "LDialGarden$Row;") (by decide +kernel)) (fun _ h9 => h9) rfl dX6_setRows_130 ?_
      refine lv_iconst (v := 0) hx hb dX6_setRows_133 (by decide) ?_
      refine lv_iconst (v := 0) hx hb dX6_setRows_134 (by decide) ?_
      refine lv_sipush (v := 16384) hx hb dX6_setRows_135 (by decide) ?_
      refine va_callv (va_runV (As := [.int (0), .int (0), .int (16384)]) (rest := []) ⟨hx, hb, hml, hown, hts⟩ (c_X5_set_10 l E M S126 0 0 16384) (cwV 3 hts gX6_setRows_X5_set rfl rfl rfl (by decide +kernel) ⟨Nat.le_of_ble_eq_true rfl, Nat.le_of_ble_eq_true rfl⟩) (gP.V (ci := 5) (q := (RX5, TX5, 3)) (q0 := 21) hE hS hW rfl rfl) rfl rfl hl.1 rfl (lv_room (Nat.le_of_ble_eq_true rfl)) dX6_setRows_138 ⟨Nat.le_of_ble_eq_true rfl, Nat.le_of_ble_eq_true rfl⟩) hS (fun _ _ h => h) (fun _ h => h) (fun S138 t H locs ht hvm hw hB hz1 hk1 hS => ?_)
      have eS138 : S138 = q_X5_set_10 S126 0 0 16384 := hw
      clear hw
      have hW : gW E M S138 H := by rw [← ht]; exact hB
      have hpS138 : S138.2.2 = S126.2.2 := by rw [eS138]; exact (qp_X5_set_10 _ _ _ _)
      refine lv_goto (tgt := 180) hx hb dX6_setRows_141 (by decide) ?_
      exact W.vret hx hb hr (fun t ht _ => ⟨⟨S138, rfl, by subst eS138; subst eS126; subst eS114; subst er100; subst er13; subst er6; subst er1; first | (simp only [q_X6_setRows, if_pos c16, if_neg c103]; done) | contradiction, by dsimp only; rw [ht]; exact hW⟩, hS.F ht⟩) hS.2.2 dX6_setRows_180
  · refine lv_aload_n hx hb dX6_setRows_19 rfl (lv_at hl 3 rfl) ?_
    obtain ⟨k20, hk20⟩ := wJ_d E M (S := S) hL1 hk1
    refine va_getN (D := eD E) (cl := vwCl) (tys := eT E) (ci := 1) (C := RX1) (T := TX1) (N := 7) (v := .int (S.2.2.2.2 p1 5)) hx hb hts hinX1 hown hE.1 hW.1 k20 hk20 rfl 5 (by decide) (va_Nw.use rfl (hE.2.2.1 (.fieldLinkNest "DialGarden$Shade" 88 "DialGarden$Dial" "slant" "I" "DialGarden") (by decide +kernel))) (fun _ h9 => h9) rfl dX6_setRows_20 ?_
    refine k_Si (va_runSN (As := [.int (S.2.2.2.2 p1 5)]) (rest := []) ⟨hx, hb, hml, hown, hts⟩ (c_X10_sineOf l (S.2.2.2.2 p1 5)) ⟨va_cnB 1 hts gX6_setRows_X10_sineOf_n81 rfl rfl rfl (hE.2.2.1 (.methodLinkNest "DialGarden$Shade" 81 ⟨"DialGarden", "sineOf", "(I)I"⟩ "DialGarden") (by decide +kernel)) (hts (.initialized RX10) (by decide +kernel)) (by decide +kernel) ⟨Nat.le_of_ble_eq_true rfl, Nat.le_of_ble_eq_true rfl⟩, hts (.static yX10_sineOf) (by decide +kernel), trivial⟩ gP0 rfl rfl hl.1 rfl (lv_room (Nat.le_of_ble_eq_true rfl)) dX6_setRows_23 ⟨Nat.le_of_ble_eq_true rfl, Nat.le_of_ble_eq_true rfl⟩) (fun r23 er23 => ?_)
    refine lv_istore (lv' := [(5, .int (r23)), (4, .int (r6)), (3, .int (r1)), (0, .ref (eC E 7)), (1, .ref (p1)), (2, .int (p2))]) hx hb dX6_setRows_26 hl (by decide) rfl (fun ls hl => ?_)
    refine lv_aload_n hx hb dX6_setRows_28 rfl (lv_at hl 4 rfl) ?_
    obtain ⟨k29, hk29⟩ := wJ_d E M (S := S) hL1 hk1
    refine va_getN (D := eD E) (cl := vwCl) (tys := eT E) (ci := 1) (C := RX1) (T := TX1) (N := 7) (v := .int (S.2.2.2.2 p1 5)) hx hb hts hinX1 hown hE.1 hW.1 k29 hk29 rfl 5 (by decide) (va_Nw.use rfl (hE.2.2.1 (.fieldLinkNest "DialGarden$Shade" 88 "DialGarden$Dial" "slant" "I" "DialGarden") (by decide +kernel))) (fun _ h9 => h9) rfl dX6_setRows_29 ?_
    refine k_Si (va_runSN (As := [.int (S.2.2.2.2 p1 5)]) (rest := []) ⟨hx, hb, hml, hown, hts⟩ (c_X10_cosineOf l (S.2.2.2.2 p1 5)) ⟨va_cnB 1 hts gX6_setRows_X10_cosineOf_n85 rfl rfl rfl (hE.2.2.1 (.methodLinkNest "DialGarden$Shade" 85 ⟨"DialGarden", "cosineOf", "(I)I"⟩ "DialGarden") (by decide +kernel)) (hts (.initialized RX10) (by decide +kernel)) (by decide +kernel) ⟨Nat.le_of_ble_eq_true rfl, Nat.le_of_ble_eq_true rfl⟩, hts (.static yX10_cosineOf) (by decide +kernel), trivial⟩ gP0 rfl rfl hl.1 rfl (lv_room (Nat.le_of_ble_eq_true rfl)) dX6_setRows_32 ⟨Nat.le_of_ble_eq_true rfl, Nat.le_of_ble_eq_true rfl⟩) (fun r32 er32 => ?_)
    refine lv_istore (lv' := [(6, .int (r32)), (5, .int (r23)), (4, .int (r6)), (3, .int (r1)), (0, .ref (eC E 7)), (1, .ref (p1)), (2, .int (p2))]) hx hb dX6_setRows_35 hl (by decide) rfl (fun ls hl => ?_)
    refine lv_aload_n hx hb dX6_setRows_37 rfl (lv_at hl 4 rfl) ?_
    refine va_get (D := eD E) (cl := vwCl) (tys := eT E) (ci := 6) (C := RX6) (T := TX6) (N := 13) (v := .ref (eC E 8)) hx hb hts hinX6 hown hE.1 hW.1 18 rfl rfl 0 (by decide) (hts (.fieldLink RX6 12 "DialGarden$Shade" "face" "LDialGarden$Row;") (by decide +kernel)) (fun _ h9 => h9) rfl dX6_setRows_38 ?_
    refine lv_iload hx hb dX6_setRows_41 (lv_at hl 1 rfl) ?_
    refine lv_iload_n hx hb dX6_setRows_43 rfl (lv_at hl 3 rfl) ?_
    refine k_Si (va_runSN (As := [.int (r23), .int (r1)]) (rest := [.ref (eC E 8)]) ⟨hx, hb, hml, hown, hts⟩ (c_X10_dot l r23 r1) ⟨va_cnB 2 hts gX6_setRows_X10_dot_n91 rfl rfl rfl (hE.2.2.1 (.methodLinkNest "DialGarden$Shade" 91 ⟨"DialGarden", "dot", "(II)I"⟩ "DialGarden") (by decide +kernel)) (hts (.initialized RX10) (by decide +kernel)) (by decide +kernel) ⟨Nat.le_of_ble_eq_true rfl, Nat.le_of_ble_eq_true rfl⟩, hts (.static yX10_dot) (by decide +kernel), trivial⟩ gP0 rfl rfl hl.1 rfl (lv_room (Nat.le_of_ble_eq_true rfl)) dX6_setRows_44 ⟨Nat.le_of_ble_eq_true rfl, Nat.le_of_ble_eq_true rfl⟩) (fun r44 er44 => ?_)
    refine lv_iload hx hb dX6_setRows_47 (lv_at hl 1 rfl) ?_
    refine lv_iload hx hb dX6_setRows_49 (lv_at hl 2 rfl) ?_
    refine k_Si (va_runSN (As := [.int (r23), .int (r6)]) (rest := [.int (r44), .ref (eC E 8)]) ⟨hx, hb, hml, hown, hts⟩ (c_X10_dot l r23 r6) ⟨va_cnB 2 hts gX6_setRows_X10_dot_n91 rfl rfl rfl (hE.2.2.1 (.methodLinkNest "DialGarden$Shade" 91 ⟨"DialGarden", "dot", "(II)I"⟩ "DialGarden") (by decide +kernel)) (hts (.initialized RX10) (by decide +kernel)) (by decide +kernel) ⟨Nat.le_of_ble_eq_true rfl, Nat.le_of_ble_eq_true rfl⟩, hts (.static yX10_dot) (by decide +kernel), trivial⟩ gP0 rfl rfl hl.1 rfl (lv_room (Nat.le_of_ble_eq_true rfl)) dX6_setRows_51 ⟨Nat.le_of_ble_eq_true rfl, Nat.le_of_ble_eq_true rfl⟩) (fun r51 er51 => ?_)
    refine lv_iload hx hb dX6_setRows_54 (lv_at hl 0 rfl) ?_
    refine va_callv (va_runV (As := [.int (r44), .int (r51), .int (r32)]) (rest := []) ⟨hx, hb, hml, hown, hts⟩ (c_X5_set_8 l E M S r44 r51 r32) (cwV 3 hts gX6_setRows_X5_set rfl rfl rfl (by decide +kernel) ⟨Nat.le_of_ble_eq_true rfl, Nat.le_of_ble_eq_true rfl⟩) (gP.V (ci := 5) (q := (RX5, TX5, 3)) (q0 := 19) hE hS hW rfl rfl) rfl rfl hl.1 rfl (lv_room (Nat.le_of_ble_eq_true rfl)) dX6_setRows_56 ⟨Nat.le_of_ble_eq_true rfl, Nat.le_of_ble_eq_true rfl⟩) hS (fun _ _ h => h) (fun _ h => h) (fun S56 t H locs ht hvm hw hB hz1 hk1 hS => ?_)
    have eS56 : S56 = q_X5_set_8 S r44 r51 r32 := hw
    clear hw
    have hW : gW E M S56 H := by rw [← ht]; exact hB
    have hpS56 : S56.2.2 = S.2.2 := by rw [eS56]; exact (qp_X5_set_8 _ _ _ _)
    refine lv_aload_n hx hb dX6_setRows_59 rfl (lv_at hl 4 rfl) ?_
    refine va_get (D := eD E) (cl := vwCl) (tys := eT E) (ci := 6) (C := RX6) (T := TX6) (N := 13) (v := .ref (eC E 9)) hx hb hts hinX6 hown hE.1 hW.1 18 rfl rfl 1 (by decide) (hts (.fieldLink RX6 18 "DialGarden$Shade" "across" "LDialGarden$Row;") (by decide +kernel)) (fun _ h9 => h9) rfl dX6_setRows_60 ?_
    refine lv_iload hx hb dX6_setRows_63 (lv_at hl 2 rfl) ?_
    refine lv_iload_n hx hb dX6_setRows_65 rfl (lv_at hl 3 rfl) ?_
    refine lv_ineg hx hb dX6_setRows_66 ?_
    refine lv_iconst (v := 0) hx hb dX6_setRows_67 (by decide) ?_
    refine va_callv (va_runV (As := [.int (r6), .int (-r1), .int (0)]) (rest := []) ⟨hx, hb, hml, hown, hts⟩ (c_X5_set_9 l E M S56 r6 (-r1) 0) (cwV 3 hts gX6_setRows_X5_set rfl rfl rfl (by decide +kernel) ⟨Nat.le_of_ble_eq_true rfl, Nat.le_of_ble_eq_true rfl⟩) (gP.V (ci := 5) (q := (RX5, TX5, 3)) (q0 := 20) hE hS hW rfl rfl) rfl rfl hl.1 rfl (lv_room (Nat.le_of_ble_eq_true rfl)) dX6_setRows_68 ⟨Nat.le_of_ble_eq_true rfl, Nat.le_of_ble_eq_true rfl⟩) hS (fun _ _ h => h) (fun _ h => h) (fun S68 t H locs ht hvm hw hB hz1 hk1 hS => ?_)
    have eS68 : S68 = q_X5_set_9 S56 r6 (-r1) 0 := hw
    clear hw
    have hW : gW E M S68 H := by rw [← ht]; exact hB
    have hpS68 : S68.2.2 = S56.2.2 := by rw [eS68]; exact (qp_X5_set_9 _ _ _ _)
    refine lv_aload_n hx hb dX6_setRows_71 rfl (lv_at hl 4 rfl) ?_
    refine va_get (D := eD E) (cl := vwCl) (tys := eT E) (ci := 6) (C := RX6) (T := TX6) (N := 13) (v := .ref (eC E 10)) hx hb hts hinX6 hown hE.1 hW.1 18 rfl rfl 2 (by decide) (hts (.fieldLink RX6 21 "DialGarden$Shade" "along" "LDialGarden$Row;") (by decide +kernel)) (fun _ h9 => h9) rfl dX6_setRows_72 ?_
    refine lv_iload hx hb dX6_setRows_75 (lv_at hl 0 rfl) ?_
    refine lv_iload_n hx hb dX6_setRows_77 rfl (lv_at hl 3 rfl) ?_
    refine k_Si (va_runSN (As := [.int (r32), .int (r1)]) (rest := [.ref (eC E 10)]) ⟨hx, hb, hml, hown, hts⟩ (c_X10_dot l r32 r1) ⟨va_cnB 2 hts gX6_setRows_X10_dot_n91 rfl rfl rfl (hE.2.2.1 (.methodLinkNest "DialGarden$Shade" 91 ⟨"DialGarden", "dot", "(II)I"⟩ "DialGarden") (by decide +kernel)) (hts (.initialized RX10) (by decide +kernel)) (by decide +kernel) ⟨Nat.le_of_ble_eq_true rfl, Nat.le_of_ble_eq_true rfl⟩, hts (.static yX10_dot) (by decide +kernel), trivial⟩ gP0 rfl rfl hl.1 rfl (lv_room (Nat.le_of_ble_eq_true rfl)) dX6_setRows_78 ⟨Nat.le_of_ble_eq_true rfl, Nat.le_of_ble_eq_true rfl⟩) (fun r78 er78 => ?_)
    refine lv_ineg hx hb dX6_setRows_81 ?_
    refine lv_iload hx hb dX6_setRows_82 (lv_at hl 0 rfl) ?_
    refine lv_iload hx hb dX6_setRows_84 (lv_at hl 2 rfl) ?_
    refine k_Si (va_runSN (As := [.int (r32), .int (r6)]) (rest := [.int (-r78), .ref (eC E 10)]) ⟨hx, hb, hml, hown, hts⟩ (c_X10_dot l r32 r6) ⟨va_cnB 2 hts gX6_setRows_X10_dot_n91 rfl rfl rfl (hE.2.2.1 (.methodLinkNest "DialGarden$Shade" 91 ⟨"DialGarden", "dot", "(II)I"⟩ "DialGarden") (by decide +kernel)) (hts (.initialized RX10) (by decide +kernel)) (by decide +kernel) ⟨Nat.le_of_ble_eq_true rfl, Nat.le_of_ble_eq_true rfl⟩, hts (.static yX10_dot) (by decide +kernel), trivial⟩ gP0 rfl rfl hl.1 rfl (lv_room (Nat.le_of_ble_eq_true rfl)) dX6_setRows_86 ⟨Nat.le_of_ble_eq_true rfl, Nat.le_of_ble_eq_true rfl⟩) (fun r86 er86 => ?_)
    refine lv_ineg hx hb dX6_setRows_89 ?_
    refine lv_iload hx hb dX6_setRows_90 (lv_at hl 1 rfl) ?_
    refine va_callv (va_runV (As := [.int (-r78), .int (-r86), .int (r23)]) (rest := []) ⟨hx, hb, hml, hown, hts⟩ (c_X5_set_10 l E M S68 (-r78) (-r86) r23) (cwV 3 hts gX6_setRows_X5_set rfl rfl rfl (by decide +kernel) ⟨Nat.le_of_ble_eq_true rfl, Nat.le_of_ble_eq_true rfl⟩) (gP.V (ci := 5) (q := (RX5, TX5, 3)) (q0 := 21) hE hS hW rfl rfl) rfl rfl hl.1 rfl (lv_room (Nat.le_of_ble_eq_true rfl)) dX6_setRows_92 ⟨Nat.le_of_ble_eq_true rfl, Nat.le_of_ble_eq_true rfl⟩) hS (fun _ _ h => h) (fun _ h => h) (fun S92 t H locs ht hvm hw hB hz1 hk1 hS => ?_)
    have eS92 : S92 = q_X5_set_10 S68 (-r78) (-r86) r23 := hw
    clear hw
    have hW : gW E M S92 H := by rw [← ht]; exact hB
    have hpS92 : S92.2.2 = S68.2.2 := by rw [eS92]; exact (qp_X5_set_10 _ _ _ _)
    refine lv_goto (tgt := 180) hx hb dX6_setRows_95 (by decide) ?_
    exact W.vret hx hb hr (fun t ht _ => ⟨⟨S92, rfl, by subst eS92; subst er86; subst er78; subst eS68; subst eS56; subst er51; subst er44; subst er32; subst er23; subst er13; subst er6; subst er1; first | (simp only [q_X6_setRows, if_neg c16]; done) | contradiction, by dsimp only; rw [ht]; exact hW⟩, hS.F ht⟩) hS.2.2 dX6_setRows_180
theorem qp_X6_setRows (S : gSc) (p1 : Nat) (p2 : Int32) : (q_X6_setRows S p1 p2).2.2 = S.2.2 := by
  unfold q_X6_setRows
  try dsimp only
  (repeat' split) <;> first | (simp only [pI_2, sR_22, qp_X5_set_10, qp_X5_set_8, qp_X5_set_9]; done) | rfl

def q_X6_gatherHouses_b7 (S : gSc)  : Nat → Int32 → gSc → gSc
  | 0, v2, Z => Z
  | n + 1, v2, Z => (if 40 ≤ v2 then Z else (if 40 ≤ v2 then Z else (match Z.2.1 3 (v2.toNatClampNeg) with | none => (let x68 := v2 + 1; q_X6_gatherHouses_b7 S n x68 Z) | some a21 => (if Z.2.2.2.1 a21 = 1 then (let x68 := v2 + 1; q_X6_gatherHouses_b7 S n x68 Z) else (let x68 := v2 + 1; q_X6_gatherHouses_b7 S n x68 (pI (pI (sR Z 11 (va_up (Z.2.1 11) ((Z.1 7 6).toNatClampNeg) (some a21))) 12 ((Z.1 7 6).toNatClampNeg) v2) 7 6 ((Z.1 7 6) + 1)))))))
def q_X6_gatherHouses (S : gSc)  : gSc := q_X6_gatherHouses_b7 S 41 0 (pI S 7 6 0)
set_option maxHeartbeats 4000000 in
set_option maxRecDepth 100000 in
theorem c_X6_gatherHouses (l : Launch) (E : gEE) (M : gSm) (S : gSc)  (hT : okR S 3 40) : Met l yX6_gatherHouses wsX6_gatherHouses ({ frames := 0, cells := 0, slots := 0, locals := 0 }) (va_Pc [.ref (eC E 7), .ref (eC E 3)] (gP E M S)) (va_Qv (fun u : gSc => u = q_X6_gatherHouses S) (fun u t => gW E M u t.heap) (eA E)) 0 0 (eA E) := by
  refine Met.ofW (cc := cX6_gatherHouses) (maxL := 5) (ret := none) (by decide) rfl ?_
  intro p e s m args below meth c s₁ B hml hv
  obtain ⟨rfl, hE, hW⟩ := hv
  have hx := B.exec
  have hb := B.bytes
  have hr := B.returns
  have hts := atoms_spec (ws := wsX6_gatherHouses) B.pre
  have hown : s.vm.findClass RX6 = some m.cls := findClass_of_methodNamed B.named
  have hlocks := B.notSynchronized
  have hinX6 : ∀ w ∈ wsX60, w ∈ wsX6_gatherHouses := by decide +kernel
  have hS : va_S (eA E) s.heap s.heap [] := va_S.rf
  have hl := lv_entry ([.ref (eC E 7), .ref (eC E 3)]) (n := 5) (Nat.le_of_ble_eq_true rfl)
  rw [lg_entry_eq]
  generalize (lg_sl ([.ref (eC E 7), .ref (eC E 3)]) ++ List.replicate (5 - (lg_sl ([.ref (eC E 7), .ref (eC E 3)])).length) Slot.unset).toArray = ls at hl ⊢
  have hl : lv_has ls 5 [(0, .ref (eC E 7)), (1, .ref (eC E 3))] := hl
  have hS : ∃ (H : Heap) (locs : List Loc), H = s.heap ∧ locs = [] ∧ gW E M S H ∧ va_S (eA E) s.heap H locs := ⟨_, _, rfl, rfl, hW, hS⟩
  clear hW
  obtain ⟨H, locs, eH, el, hW, hS⟩ := hS
  rw [← eH, ← el]
  clear eH el
  have L7 : ∀ n : Nat, ∀ (v2 : Int32) (Z : gSc) (H : Heap) (locs : List Loc) (ls : Array Slot), (gL 40 n v2 ∧ ghI S v2 Z) → q_X6_gatherHouses S = q_X6_gatherHouses_b7 S n v2 Z → gW E M Z H → va_S (eA E) s.heap H locs → lv_has ls 5 [(0, .ref (eC E 7)), (1, .ref (eC E 3)), (2, .int (v2))] → W p l e (headSpec wsX6_gatherHouses ({ frames := 0, cells := 0, slots := 0, locals := 0 })).room s m ([.ref (eC E 7), .ref (eC E 3)] : List Value).toArray below meth c H locs 0 0 (MQ below (va_Qv (fun u : gSc => u = q_X6_gatherHouses S) (fun u t => gW E M u t.heap) (eA E)) ([.ref (eC E 7), .ref (eC E 3)] : List Value).toArray s 0 0 (eA E)) (F0 m 7 ls []) := by
    intro n
    induction n with
    | zero =>
      intro v2 Z H locs ls hi hq hW hS hl
      exact hi.1.z
    | succ n ih =>
      intro v2 Z H locs ls hi hq hW hS hl
      refine lv_iload_n hx hb dX6_gatherHouses_7 rfl (lv_at hl 2 rfl) ?_
      refine lv_aload_n hx hb dX6_gatherHouses_8 rfl (lv_at hl 1 rfl) ?_
      refine va_alen (D := eD E) (cl := vwCl) (tys := eT E) hx hb hE.1 hW.1 14 4 rfl rfl (v := 40) rfl dX6_gatherHouses_9 ?_
      refine lv_icmp_ge (tgt := 74) hx hb dX6_gatherHouses_10 (by decide) (fun c10 => ?_) (fun c10 => ?_)
      · exact W.vret hx hb hr (fun t ht _ => ⟨⟨Z, rfl, by rw [hq]; first | (simp only [q_X6_gatherHouses_b7, if_pos c10]; done) | contradiction, by dsimp only; rw [ht]; exact hW⟩, hS.F ht⟩) hS.2.2 dX6_gatherHouses_74
      · refine lv_iload_n hx hb dX6_gatherHouses_13 rfl (lv_at hl 2 rfl) ?_
        refine lv_bipush (v := 40) hx hb dX6_gatherHouses_14 (by decide) ?_
        refine lv_icmp_ge (tgt := 74) hx hb dX6_gatherHouses_16 (by decide) (fun c16 => ?_) (fun c16 => ?_)
        · exact W.vret hx hb hr (fun t ht _ => ⟨⟨Z, rfl, by rw [hq]; first | (simp only [q_X6_gatherHouses_b7, if_neg c10, if_pos c16]; done) | contradiction, by dsimp only; rw [ht]; exact hW⟩, hS.F ht⟩) hS.2.2 dX6_gatherHouses_74
        · refine lv_aload_n hx hb dX6_gatherHouses_19 rfl (lv_at hl 1 rfl) ?_
          refine lv_iload_n hx hb dX6_gatherHouses_20 rfl (lv_at hl 2 rfl) ?_
          refine va_aldq (D := eD E) (cl := vwCl) (tys := eT E) (f := Z.2.1 3) hx hb hE.1 hW.1 14 4 rfl rfl (vx (hi.1.lt c10 (by decide)).1 (hi.1.lt c10 (by decide)).2) dX6_gatherHouses_21 ?_
          rcases ho21 : Z.2.1 3 (v2.toNatClampNeg) with _ | a21
          · refine lv_astoreN (lv' := [(4, .null), (0, .ref (eC E 7)), (1, .ref (eC E 3)), (2, .int (v2))]) hx hb dX6_gatherHouses_22 hl (by decide) rfl (fun ls hl => ?_)
            refine lv_aloadN hx hb dX6_gatherHouses_24 (lv_at hl 0 rfl) ?_
            refine lv_instN hx hb dX6_gatherHouses_26 ?_
            refine lv_if_eq (tgt := 68) hx hb dX6_gatherHouses_29 (by decide) (fun c29 => ?_) (fun c29 => ?_)
            · obtain ⟨x68, ex68⟩ : ∃ y : Int32, y = v2 + 1 := ⟨_, rfl⟩
              refine lv_iinc (v := x68) (lv' := [(2, .int (x68)), (4, .null), (0, .ref (eC E 7)), (1, .ref (eC E 3))]) hx hb dX6_gatherHouses_68 hl (k := 3) rfl (by rw [ex68]; rfl) (by decide) rfl (fun ls hl => ?_)
              refine lv_goto (tgt := 7) hx hb dX6_gatherHouses_71 (by decide) ?_
              exact ih _ _ _ _ _ (by first | exact ⟨hi.1.st c10 (by decide) ex68, gh_s1 hi c10 ex68⟩ | exact ⟨hi.1.st c10 (by decide) ex68, gh_s2 hi c10 ex68⟩) (by rw [hq]; subst ex68; first | (simp only [q_X6_gatherHouses_b7, if_neg c10, if_neg c16, ho21]; done) | contradiction) hW hS (lv_sub hl [2, 3, 0] rfl)
            · exact absurd c29 (by decide)
          · have hL21 : a21 ∈ Z.2.2.1 := gh_t hT hi c10 ho21
            refine lv_astore (lv' := [(4, .ref (a21)), (0, .ref (eC E 7)), (1, .ref (eC E 3)), (2, .int (v2))]) hx hb dX6_gatherHouses_22 hl (by decide) rfl (fun ls hl => ?_)
            refine lv_aload hx hb dX6_gatherHouses_24 (lv_at hl 0 rfl) ?_
            by_cases hK26 : Z.2.2.2.1 a21 = 1
            · obtain ⟨k26, hk26⟩ := wJ_d E M (S := Z) hL21 hK26
              refine va_instNo hx hb hown (hts (.classLink RX6 24 RX2) (by decide +kernel)) hE.2.2.2.2.1 (va_recv hE.1 hW.1 (ci := 1) (q := (RX1, TX1, 7)) rfl hk26) dX6_gatherHouses_26 ?_
              refine lv_if_eq (tgt := 68) hx hb dX6_gatherHouses_29 (by decide) (fun c29 => ?_) (fun c29 => ?_)
              · obtain ⟨x68, ex68⟩ : ∃ y : Int32, y = v2 + 1 := ⟨_, rfl⟩
                refine lv_iinc (v := x68) (lv' := [(2, .int (x68)), (4, .ref (a21)), (0, .ref (eC E 7)), (1, .ref (eC E 3))]) hx hb dX6_gatherHouses_68 hl (k := 3) rfl (by rw [ex68]; rfl) (by decide) rfl (fun ls hl => ?_)
                refine lv_goto (tgt := 7) hx hb dX6_gatherHouses_71 (by decide) ?_
                exact ih _ _ _ _ _ (by first | exact ⟨hi.1.st c10 (by decide) ex68, gh_s1 hi c10 ex68⟩ | exact ⟨hi.1.st c10 (by decide) ex68, gh_s2 hi c10 ex68⟩) (by rw [hq]; subst ex68; first | (simp only [q_X6_gatherHouses_b7, if_neg c10, if_neg c16, if_pos hK26, ho21]; done) | contradiction) hW hS (lv_sub hl [2, 3, 0] rfl)
              · exact absurd c29 (by decide)
            · obtain ⟨k26, hk26⟩ := wJ_h E M (S := Z) hL21 hK26
              refine va_instS hx hb hown (hts (.classLink RX6 24 RX2) (by decide +kernel)) (hE.1.1 2 (RX2, TX2, 5) rfl).2 (va_recv hE.1 hW.1 (ci := 2) (q := (RX2, TX2, 5)) rfl hk26) dX6_gatherHouses_26 ?_
              refine lv_if_eq (tgt := 68) hx hb dX6_gatherHouses_29 (by decide) (fun c29 => ?_) (fun c29 => ?_)
              · exact absurd c29 (by decide)
              · refine lv_aload hx hb dX6_gatherHouses_32 (lv_at hl 0 rfl) ?_
                obtain ⟨k34, hk34⟩ := wJ_h E M (S := Z) hL21 hK26
                refine va_castS hx hb hown (hts (.classLink RX6 24 RX2) (by decide +kernel)) (hE.1.1 2 (RX2, TX2, 5) rfl).2 (va_recv hE.1 hW.1 (ci := 2) (q := (RX2, TX2, 5)) rfl hk34) dX6_gatherHouses_34 ?_
                refine lv_astore_n (lv' := [(3, .ref (a21)), (4, .ref (a21)), (0, .ref (eC E 7)), (1, .ref (eC E 3)), (2, .int (v2))]) hx hb dX6_gatherHouses_37 rfl hl (by decide) rfl (fun ls hl => ?_)
                refine lv_aload_n hx hb dX6_gatherHouses_38 rfl (lv_at hl 2 rfl) ?_
                refine va_get (D := eD E) (cl := vwCl) (tys := eT E) (ci := 6) (C := RX6) (T := TX6) (N := 13) (v := .ref (eC E 11)) hx hb hts hinX6 hown hE.1 hW.1 18 rfl rfl 3 (by decide) (hts (.fieldLink RX6 26 "DialGarden$Shade" "houses" "[LDialGarden$House;") (by decide +kernel)) (fun _ h9 => h9) rfl dX6_gatherHouses_39 ?_
                refine lv_aload_n hx hb dX6_gatherHouses_42 rfl (lv_at hl 2 rfl) ?_
                refine va_get (D := eD E) (cl := vwCl) (tys := eT E) (ci := 6) (C := RX6) (T := TX6) (N := 13) (v := .int (Z.1 7 6)) hx hb hts hinX6 hown hE.1 hW.1 18 rfl rfl 5 (by decide) (hts (.fieldLink RX6 34 "DialGarden$Shade" "houseCount" "I") (by decide +kernel)) (fun _ h9 => h9) rfl dX6_gatherHouses_43 ?_
                refine lv_aload_n hx hb dX6_gatherHouses_46 rfl (lv_at hl 0 rfl) ?_
                obtain ⟨k47, hk47⟩ := wJ_h E M (S := Z) hL21 hK26
                refine va_astq (D := eD E) (cl := vwCl) (tys := eT E) (A := eA E) (f := Z.2.1 11) (r := (RX2, TX2, 5)) hx hb hE.1 hW.1 hW.2 hS 22 3 k47 2 rfl rfl hk47 rfl (gh_in hi c10) dX6_gatherHouses_47 (fun H locs hP hD hS => ?_)
                have hW : gW E M (sR Z 11 (va_up (Z.2.1 11) ((Z.1 7 6).toNatClampNeg) (some a21))) H := gW.of (tC_R11 E M Z (va_up (Z.2.1 11) ((Z.1 7 6).toNatClampNeg) (some a21))) hP hD
                refine lv_aload_n hx hb dX6_gatherHouses_48 rfl (lv_at hl 2 rfl) ?_
                refine va_get (D := eD E) (cl := vwCl) (tys := eT E) (ci := 6) (C := RX6) (T := TX6) (N := 13) (v := .ref (eC E 12)) hx hb hts hinX6 hown hE.1 hW.1 18 rfl rfl 4 (by decide) (hts (.fieldLink RX6 30 "DialGarden$Shade" "housePlaces" "[I") (by decide +kernel)) (fun _ h9 => h9) rfl dX6_gatherHouses_49 ?_
                refine lv_aload_n hx hb dX6_gatherHouses_52 rfl (lv_at hl 2 rfl) ?_
                refine va_get (D := eD E) (cl := vwCl) (tys := eT E) (ci := 6) (C := RX6) (T := TX6) (N := 13) (v := .int (Z.1 7 6)) hx hb hts hinX6 hown hE.1 hW.1 18 rfl rfl 5 (by decide) (hts (.fieldLink RX6 34 "DialGarden$Shade" "houseCount" "I") (by decide +kernel)) (fun _ h9 => h9) rfl dX6_gatherHouses_53 ?_
                refine lv_iload_n hx hb dX6_gatherHouses_56 rfl (lv_at hl 4 rfl) ?_
                refine va_iast (D := eD E) (cl := vwCl) (tys := eT E) (A := eA E) (f := Z.1 12) (x := v2) hx hb hE.1 hW.1 hW.2 hS 23 0 rfl rfl (gh_in hi c10) dX6_gatherHouses_57 (fun H locs hP hD hS => ?_)
                have hW : gW E M (pI (sR Z 11 (va_up (Z.2.1 11) ((Z.1 7 6).toNatClampNeg) (some a21))) 12 ((Z.1 7 6).toNatClampNeg) v2) H := gW.of (tC_I12 E M (sR Z 11 (va_up (Z.2.1 11) ((Z.1 7 6).toNatClampNeg) (some a21))) (upd (Z.1 12) ((Z.1 7 6).toNatClampNeg) v2)) hP hD
                refine lv_aload_n hx hb dX6_gatherHouses_58 rfl (lv_at hl 2 rfl) ?_
                refine lv_dup hx hb dX6_gatherHouses_59 rfl ?_
                refine va_get (D := eD E) (cl := vwCl) (tys := eT E) (ci := 6) (C := RX6) (T := TX6) (N := 13) (v := .int (Z.1 7 6)) hx hb hts hinX6 hown hE.1 hW.1 18 rfl rfl 5 (by decide) (hts (.fieldLink RX6 34 "DialGarden$Shade" "houseCount" "I") (by decide +kernel)) (fun _ h9 => h9) rfl dX6_gatherHouses_60 ?_
                refine lv_iconst (v := 1) hx hb dX6_gatherHouses_63 (by decide) ?_
                refine lv_iadd hx hb dX6_gatherHouses_64 ?_
                refine va_put (D := eD E) (cl := vwCl) (tys := eT E) (A := eA E) (ci := 6) (C := RX6) (T := TX6) (N := 13) (v := .int ((Z.1 7 6) + 1)) (ty := .int) hx hb hts hinX6 tyX6 tyX6_ok nmX6 hown hE.1 hW.1 hW.2 hS 18 rfl rfl 5 (by decide) (hts (.fieldLink RX6 34 "DialGarden$Shade" "houseCount" "I") (by decide +kernel)) (fun _ h9 => h9) rfl (by decide +kernel) rfl rfl (Nat.le_of_ble_eq_true rfl) dX6_gatherHouses_65 (fun H locs hP hD hS => ?_)
                have hW : gW E M (pI (pI (sR Z 11 (va_up (Z.2.1 11) ((Z.1 7 6).toNatClampNeg) (some a21))) 12 ((Z.1 7 6).toNatClampNeg) v2) 7 6 ((Z.1 7 6) + 1)) H := gW.of (uC_7_6 E M (pI (sR Z 11 (va_up (Z.2.1 11) ((Z.1 7 6).toNatClampNeg) (some a21))) 12 ((Z.1 7 6).toNatClampNeg) v2) ((Z.1 7 6) + 1)) hP hD
                obtain ⟨x68, ex68⟩ : ∃ y : Int32, y = v2 + 1 := ⟨_, rfl⟩
                refine lv_iinc (v := x68) (lv' := [(2, .int (x68)), (3, .ref (a21)), (4, .ref (a21)), (0, .ref (eC E 7)), (1, .ref (eC E 3))]) hx hb dX6_gatherHouses_68 hl (k := 4) rfl (by rw [ex68]; rfl) (by decide) rfl (fun ls hl => ?_)
                refine lv_goto (tgt := 7) hx hb dX6_gatherHouses_71 (by decide) ?_
                exact ih _ _ _ _ _ (by first | exact ⟨hi.1.st c10 (by decide) ex68, gh_s1 hi c10 ex68⟩ | exact ⟨hi.1.st c10 (by decide) ex68, gh_s2 hi c10 ex68⟩) (by rw [hq]; subst ex68; first | (simp only [q_X6_gatherHouses_b7, if_neg c10, if_neg c16, if_neg hK26, ho21]; done) | contradiction) hW hS (lv_sub hl [3, 4, 0] rfl)
  refine lv_aload_n hx hb dX6_gatherHouses_0 rfl (lv_at hl 0 rfl) ?_
  refine lv_iconst (v := 0) hx hb dX6_gatherHouses_1 (by decide) ?_
  refine va_put (D := eD E) (cl := vwCl) (tys := eT E) (A := eA E) (ci := 6) (C := RX6) (T := TX6) (N := 13) (v := .int (0)) (ty := .int) hx hb hts hinX6 tyX6 tyX6_ok nmX6 hown hE.1 hW.1 hW.2 hS 18 rfl rfl 5 (by decide) (hts (.fieldLink RX6 34 "DialGarden$Shade" "houseCount" "I") (by decide +kernel)) (fun _ h9 => h9) rfl (by decide +kernel) rfl rfl (Nat.le_of_ble_eq_true rfl) dX6_gatherHouses_2 (fun H locs hP hD hS => ?_)
  have hW : gW E M (pI S 7 6 0) H := gW.of (uC_7_6 E M S 0) hP hD
  refine lv_iconst (v := 0) hx hb dX6_gatherHouses_5 (by decide) ?_
  refine lv_istore_n (lv' := [(2, .int (0)), (0, .ref (eC E 7)), (1, .ref (eC E 3))]) hx hb dX6_gatherHouses_6 rfl hl (by decide) rfl (fun ls hl => ?_)
  exact L7 41 _ _ _ _ _ (by exact ⟨gL.i 40, gh_i⟩) (by first | (simp only [q_X6_gatherHouses]; done) | contradiction) hW hS (lv_sub hl [1, 2, 0] rfl)
theorem qp_gh_b (S : gSc) : ∀ (n : Nat) (v : Int32) (Z : gSc), (q_X6_gatherHouses_b7 S n v Z).2.2 = Z.2.2
  | 0, _, _ => rfl
  | n + 1, v, Z => by
    rw [q_X6_gatherHouses_b7]
    dsimp only
    (repeat' split) <;> first | (rw [qp_gh_b S n]; done) | (rw [qp_gh_b S n, pI_2, pI_2, sR_22]; done) | rfl
theorem qp_X6_gatherHouses (S : gSc) : (q_X6_gatherHouses S).2.2 = S.2.2 := by
  unfold q_X6_gatherHouses
  rw [qp_gh_b S, pI_2]
