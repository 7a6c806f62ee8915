def q_X10_followStretches_b36 (S : gSc) (p1 : Nat) (p2 : Int32) (p3 : Int32) : Nat → Int32 → Int32 → Int32 → gSc → Int32 × gSc
  | 0, v4, v5, v6, Z => (0, Z)
  | n + 1, v4, v5, v6, Z => (if 1440 ≤ v6 then (v4, Z) else (let S50 := q_X8_setMinute Z v6; (let r61 := (q_X6_cast S50).1; let S61 := (q_X6_cast S50).2; (if r61 = 0 then (if v5 = 0 then (let x84 := v4 + 1; (if (x84 - 1) = p3 then (let S106 := q_X4_add_26 S61 v6; (let x113 := v6 + 1; q_X10_followStretches_b36 S p1 p2 p3 n x84 1 x113 S106)) else (let x113 := v6 + 1; q_X10_followStretches_b36 S p1 p2 p3 n x84 1 x113 S61))) else (if (v4 - 1) = p3 then (let S106 := q_X4_add_26 S61 v6; (let x113 := v6 + 1; q_X10_followStretches_b36 S p1 p2 p3 n v4 1 x113 S106)) else (let x113 := v6 + 1; q_X10_followStretches_b36 S p1 p2 p3 n v4 1 x113 S61))) else (let x113 := v6 + 1; q_X10_followStretches_b36 S p1 p2 p3 n v4 0 x113 S61)))))
def q_X10_followStretches (S : gSc) (p1 : Nat) (p2 : Int32) (p3 : Int32) : Int32 × gSc := (let S4 := q_X4_clear_26 S; (let S16 := q_X6_setUp S4 p1; (let S24 := q_X8_setDay S16 p2; q_X10_followStretches_b36 S p1 p2 p3 1441 0 0 0 S24)))
set_option maxHeartbeats 4000000 in
set_option maxRecDepth 100000 in
theorem c_X10_followStretches (l : Launch) (E : gEE) (M : gSm) (S : gSc) (p1 : Nat) (p2 : Int32) (p3 : Int32) (hL1 : p1 ∈ S.2.2.1) (hk1 : S.2.2.2.1 p1 = 1) (hT : okR S 3 40) (hH : okH S) (hkn0 : 0 ≤ (S.1 1 1).toInt) (hkn : (S.1 1 1).toInt ≤ 366) : Met l yX10_followStretches wsX10_followStretches ({ frames := 5, cells := 0, slots := 0, locals := 114 }) (va_Pc [.ref (eC E 0), .ref (p1), .int (p2), .int (p3)] (gP E M S)) (va_Qi (fun r (u : gSc) => (r, u) = q_X10_followStretches S p1 p2 p3) (fun u t => gW E M u t.heap) (eA E)) 0 0 (eA E) := by
  refine Met.ofW (cc := cX10_followStretches) (maxL := 8) (ret := (some .int)) (by decide) rfl ?_
  intro p e s m args below meth c s₁ B hml hv
  obtain ⟨rfl, hE, hW⟩ := hv
  have hx := B.exec
  have hb := B.bytes
  have hr := B.returns
  have hts := atoms_spec (ws := wsX10_followStretches) B.pre
  have hown : s.vm.findClass RX10 = some m.cls := findClass_of_methodNamed B.named
  have hlocks := B.notSynchronized
  have hinX10 : ∀ w ∈ wsX100, w ∈ wsX10_followStretches := by decide +kernel
  have hS : va_S (eA E) s.heap s.heap [] := va_S.rf
  have hl := lv_entry ([.ref (eC E 0), .ref (p1), .int (p2), .int (p3)]) (n := 8) (Nat.le_of_ble_eq_true rfl)
  rw [lg_entry_eq]
  generalize (lg_sl ([.ref (eC E 0), .ref (p1), .int (p2), .int (p3)]) ++ List.replicate (8 - (lg_sl ([.ref (eC E 0), .ref (p1), .int (p2), .int (p3)])).length) Slot.unset).toArray = ls at hl ⊢
  have hl : lv_has ls 8 [(0, .ref (eC E 0)), (1, .ref (p1)), (2, .int (p2)), (3, .int (p3))] := hl
  have hS : ∃ (H : Heap) (locs : List Loc), H = s.heap ∧ locs = [] ∧ gW E M S H ∧ va_S (eA E) s.heap H locs := ⟨_, _, rfl, rfl, hW, hS⟩
  clear hW
  obtain ⟨H, locs, eH, el, hW, hS⟩ := hS
  rw [← eH, ← el]
  clear eH el
  have L36 : ∀ n : Nat, ∀ (v4 : Int32) (v5 : Int32) (v6 : Int32) (Z : gSc) (H : Heap) (locs : List Loc) (ls : Array Slot), (gL 1440 n v6 ∧ kZ S Z) → q_X10_followStretches S p1 p2 p3 = q_X10_followStretches_b36 S p1 p2 p3 n v4 v5 v6 Z → gW E M Z H → va_S (eA E) s.heap H locs → lv_has ls 8 [(0, .ref (eC E 0)), (3, .int (p3)), (4, .int (v4)), (5, .int (v5)), (6, .int (v6))] → W p l e (headSpec wsX10_followStretches ({ frames := 5, cells := 0, slots := 0, locals := 114 })).room s m ([.ref (eC E 0), .ref (p1), .int (p2), .int (p3)] : List Value).toArray below meth c H locs 0 0 (MQ below (va_Qi (fun r (u : gSc) => (r, u) = q_X10_followStretches S p1 p2 p3) (fun u t => gW E M u t.heap) (eA E)) ([.ref (eC E 0), .ref (p1), .int (p2), .int (p3)] : List Value).toArray s 0 0 (eA E)) (F0 m 36 ls []) := by
    intro n
    induction n with
    | zero =>
      intro v4 v5 v6 Z H locs ls hi hq hW hS hl
      exact hi.1.z
    | succ n ih =>
      intro v4 v5 v6 Z H locs ls hi hq hW hS hl
      refine lv_iload hx hb dX10_followStretches_36 (lv_at hl 4 rfl) ?_
      refine lv_sipush (v := 1440) hx hb dX10_followStretches_38 (by decide) ?_
      refine lv_icmp_ge (tgt := 119) hx hb dX10_followStretches_41 (by decide) (fun c41 => ?_) (fun c41 => ?_)
      · refine lv_iload hx hb dX10_followStretches_119 (lv_at hl 2 rfl) ?_
        exact W.iret (v := v4) hx hb hr (fun t ht _ => ⟨⟨v4, Z, rfl, by rw [hq]; first | (simp only [q_X10_followStretches_b36, if_pos c41]; done) | contradiction, by dsimp only; rw [ht]; exact hW⟩, hS.F ht⟩) hS.2.2 dX10_followStretches_121
      · refine lv_aload_n hx hb dX10_followStretches_44 rfl (lv_at hl 0 rfl) ?_
        refine va_get (D := eD E) (cl := vwCl) (tys := eT E) (ci := 9) (C := RX10) (T := TX10) (N := 12) (v := .ref (eC E 1)) hx hb hts hinX10 hown hE.1 hW.1 11 rfl rfl 0 (by decide) (hts (.fieldLink RX10 10 "DialGarden" "sky" "LDialGarden$Sky;") (by decide +kernel)) (fun _ h9 => h9) rfl dX10_followStretches_45 ?_
        refine lv_iload hx hb dX10_followStretches_48 (lv_at hl 4 rfl) ?_
        refine va_callv (va_runV (As := [.int (v6)]) (rest := []) ⟨hx, hb, hml, hown, hts⟩ (c_X8_setMinute l E M Z v6) (cwV 1 hts gX10_followStretches_X8_setMinute rfl rfl rfl (by decide +kernel) ⟨Nat.le_of_ble_eq_true rfl, Nat.le_of_ble_eq_true rfl⟩) (gP.V (ci := 8) (q := (RX8, TX8, 16)) (q0 := 12) hE hS hW rfl rfl) rfl rfl hl.1 rfl (lv_room (Nat.le_of_ble_eq_true rfl)) dX10_followStretches_50 ⟨Nat.le_of_ble_eq_true rfl, Nat.le_of_ble_eq_true rfl⟩) hS (fun _ _ h => h) (fun _ h => h) (fun S50 t H locs ht hvm hw hB hzz hkk hS => ?_)
        have eS50 : S50 = q_X8_setMinute Z v6 := hw
        clear hw
        have hW : gW E M S50 H := by rw [← ht]; exact hB
        have hpS50 : S50.2.2 = Z.2.2 := by rw [eS50]; exact (qp_X8_setMinute _ _)
        refine lv_aload_n hx hb dX10_followStretches_53 rfl (lv_at hl 0 rfl) ?_
        refine va_get (D := eD E) (cl := vwCl) (tys := eT E) (ci := 9) (C := RX10) (T := TX10) (N := 12) (v := .ref (eC E 7)) hx hb hts hinX10 hown hE.1 hW.1 11 rfl rfl 3 (by decide) (hts (.fieldLink RX10 32 "DialGarden" "shade" "LDialGarden$Shade;") (by decide +kernel)) (fun _ h9 => h9) rfl dX10_followStretches_54 ?_
        refine lv_aload_n hx hb dX10_followStretches_57 rfl (lv_at hl 0 rfl) ?_
        refine va_get (D := eD E) (cl := vwCl) (tys := eT E) (ci := 9) (C := RX10) (T := TX10) (N := 12) (v := .ref (eC E 1)) hx hb hts hinX10 hown hE.1 hW.1 11 rfl rfl 0 (by decide) (hts (.fieldLink RX10 10 "DialGarden" "sky" "LDialGarden$Sky;") (by decide +kernel)) (fun _ h9 => h9) rfl dX10_followStretches_58 ?_
        refine va_calli (va_runV (As := [.ref (eC E 1)]) (rest := []) ⟨hx, hb, hml, hown, hts⟩ (c_X6_cast l E M S50 (by rw [eS50]; exact (hi.2.st (kw_setMinute _ _)).1.1) (by rw [eS50]; exact (hi.2.st (kw_setMinute _ _)).1.2.1) (by rw [eS50]; exact (hi.2.st (kw_setMinute _ _)).1.2.2)) (cwV 1 hts gX10_followStretches_X6_cast rfl rfl rfl (by decide +kernel) ⟨Nat.le_of_ble_eq_true rfl, Nat.le_of_ble_eq_true rfl⟩) (gP.V (ci := 6) (q := (RX6, TX6, 13)) (q0 := 18) hE hS hW rfl rfl) rfl rfl hl.1 rfl (lv_room (Nat.le_of_ble_eq_true rfl)) dX10_followStretches_61 ⟨Nat.le_of_ble_eq_true rfl, Nat.le_of_ble_eq_true rfl⟩) hS (fun _ _ h => h) (fun _ h => h) (fun r61 S61 t H locs ht hvm hw hB hzz hkk hS => ?_)
        obtain ⟨er61, eS61⟩ := prj hw
        clear hw
        have hW : gW E M S61 H := by rw [← ht]; exact hB
        have hpS61 : S61.2.2 = S50.2.2 := by rw [eS61]; exact (qp_X6_cast _)
        refine lv_if_ne (tgt := 71) hx hb dX10_followStretches_64 (by decide) (fun c64 => ?_) (fun c64 => ?_)
        · refine lv_iconst (v := 0) hx hb dX10_followStretches_71 (by decide) ?_
          refine lv_istore (lv' := [(7, .int (0)), (0, .ref (eC E 0)), (3, .int (p3)), (4, .int (v4)), (5, .int (v5)), (6, .int (v6))]) hx hb dX10_followStretches_72 hl (by decide) rfl (fun ls hl => ?_)
          refine lv_iload hx hb dX10_followStretches_74 (lv_at hl 0 rfl) ?_
          refine lv_if_eq (tgt := 87) hx hb dX10_followStretches_76 (by decide) (fun c76 => ?_) (fun c76 => ?_)
          · refine lv_iload hx hb dX10_followStretches_87 (lv_at hl 0 rfl) ?_
            refine lv_if_eq (tgt := 109) hx hb dX10_followStretches_89 (by decide) (fun c89 => ?_) (fun c89 => ?_)
            · refine lv_iload hx hb dX10_followStretches_109 (lv_at hl 0 rfl) ?_
              refine lv_istore (lv' := [(5, .int (0)), (7, .int (0)), (0, .ref (eC E 0)), (3, .int (p3)), (4, .int (v4)), (6, .int (v6))]) hx hb dX10_followStretches_111 hl (by decide) rfl (fun ls hl => ?_)
              obtain ⟨x113, ex113⟩ : ∃ y : Int32, y = v6 + 1 := ⟨_, rfl⟩
              refine lv_iinc (v := x113) (lv' := [(6, .int (x113)), (5, .int (0)), (7, .int (0)), (0, .ref (eC E 0)), (3, .int (p3)), (4, .int (v4))]) hx hb dX10_followStretches_113 hl (k := 5) rfl (by rw [ex113]; rfl) (by decide) rfl (fun ls hl => ?_)
              refine lv_goto (tgt := 36) hx hb dX10_followStretches_116 (by decide) ?_
              exact ih _ _ _ _ _ _ _ (by first | exact ⟨hi.1.st c41 (by decide) ex113, hi.2.st (by rw [eS61, eS50]; exact kw_tr (kw_cast _) (kw_setMinute _ _))⟩ | exact ⟨hi.1.st c41 (by decide) ex113, hi.2.st (by rw [eS106, eS61, eS50]; exact kw_tr (kw_add26 _ _) (kw_tr (kw_cast _) (kw_setMinute _ _)))⟩) (by rw [hq]; subst ex113; first | (simp only [q_X10_followStretches_b36, if_neg c41, if_neg c64, ← eS50, ← er61, ← eS61]; done) | contradiction) hW hS (lv_sub hl [3, 4, 5, 1, 0] rfl)
            · exact absurd c89 (by decide)
          · exact absurd c76 (by decide)
        · refine lv_iconst (v := 1) hx hb dX10_followStretches_67 (by decide) ?_
          refine lv_goto (tgt := 72) hx hb dX10_followStretches_68 (by decide) ?_
          refine lv_istore (lv' := [(7, .int (1)), (0, .ref (eC E 0)), (3, .int (p3)), (4, .int (v4)), (5, .int (v5)), (6, .int (v6))]) hx hb dX10_followStretches_72 hl (by decide) rfl (fun ls hl => ?_)
          refine lv_iload hx hb dX10_followStretches_74 (lv_at hl 0 rfl) ?_
          refine lv_if_eq (tgt := 87) hx hb dX10_followStretches_76 (by decide) (fun c76 => ?_) (fun c76 => ?_)
          · exact absurd c76 (by decide)
          · refine lv_iload hx hb dX10_followStretches_79 (lv_at hl 4 rfl) ?_
            refine lv_if_ne (tgt := 87) hx hb dX10_followStretches_81 (by decide) (fun c81 => ?_) (fun c81 => ?_)
            · refine lv_iload hx hb dX10_followStretches_87 (lv_at hl 0 rfl) ?_
              refine lv_if_eq (tgt := 109) hx hb dX10_followStretches_89 (by decide) (fun c89 => ?_) (fun c89 => ?_)
              · exact absurd c89 (by decide)
              · refine lv_iload hx hb dX10_followStretches_92 (lv_at hl 3 rfl) ?_
                refine lv_iconst (v := 1) hx hb dX10_followStretches_94 (by decide) ?_
                refine lv_isub hx hb dX10_followStretches_95 ?_
                refine lv_iload_n hx hb dX10_followStretches_96 rfl (lv_at hl 2 rfl) ?_
                refine lv_icmp_ne (tgt := 109) hx hb dX10_followStretches_97 (by decide) (fun c97 => ?_) (fun c97 => ?_)
                · refine lv_iload hx hb dX10_followStretches_109 (lv_at hl 0 rfl) ?_
                  refine lv_istore (lv' := [(5, .int (1)), (7, .int (1)), (0, .ref (eC E 0)), (3, .int (p3)), (4, .int (v4)), (6, .int (v6))]) hx hb dX10_followStretches_111 hl (by decide) rfl (fun ls hl => ?_)
                  obtain ⟨x113, ex113⟩ : ∃ y : Int32, y = v6 + 1 := ⟨_, rfl⟩
                  refine lv_iinc (v := x113) (lv' := [(6, .int (x113)), (5, .int (1)), (7, .int (1)), (0, .ref (eC E 0)), (3, .int (p3)), (4, .int (v4))]) hx hb dX10_followStretches_113 hl (k := 5) rfl (by rw [ex113]; rfl) (by decide) rfl (fun ls hl => ?_)
                  refine lv_goto (tgt := 36) hx hb dX10_followStretches_116 (by decide) ?_
                  exact ih _ _ _ _ _ _ _ (by first | exact ⟨hi.1.st c41 (by decide) ex113, hi.2.st (by rw [eS61, eS50]; exact kw_tr (kw_cast _) (kw_setMinute _ _))⟩ | exact ⟨hi.1.st c41 (by decide) ex113, hi.2.st (by rw [eS106, eS61, eS50]; exact kw_tr (kw_add26 _ _) (kw_tr (kw_cast _) (kw_setMinute _ _)))⟩) (by rw [hq]; subst ex113; first | (simp only [q_X10_followStretches_b36, if_neg c41, if_pos c64, if_neg c81, if_neg c97, ← eS50, ← er61, ← eS61]; done) | contradiction) hW hS (lv_sub hl [3, 4, 5, 1, 0] rfl)
                · refine lv_aload_n hx hb dX10_followStretches_100 rfl (lv_at hl 1 rfl) ?_
                  refine va_get (D := eD E) (cl := vwCl) (tys := eT E) (ci := 9) (C := RX10) (T := TX10) (N := 12) (v := .ref (eC E 26)) hx hb hts hinX10 hown hE.1 hW.1 11 rfl rfl 11 (by decide) (hts (.fieldLink RX10 71 "DialGarden" "minutesOfStretch" "LDialGarden$Range;") (by decide +kernel)) (fun _ h9 => h9) rfl dX10_followStretches_101 ?_
                  refine lv_iload hx hb dX10_followStretches_104 (lv_at hl 5 rfl) ?_
                  refine va_callv (va_runV (As := [.int (v6)]) (rest := []) ⟨hx, hb, hml, hown, hts⟩ (c_X4_add_26 l E M S61 v6) (cwV 1 hts gX10_followStretches_X4_add rfl rfl rfl (by decide +kernel) ⟨Nat.le_of_ble_eq_true rfl, Nat.le_of_ble_eq_true rfl⟩) (gP.V (ci := 4) (q := (RX4, TX4, 3)) (q0 := 37) hE hS hW rfl rfl) rfl rfl hl.1 rfl (lv_room (Nat.le_of_ble_eq_true rfl)) dX10_followStretches_106 ⟨Nat.le_of_ble_eq_true rfl, Nat.le_of_ble_eq_true rfl⟩) hS (fun _ _ h => h) (fun _ h => h) (fun S106 t H locs ht hvm hw hB hzz hkk hS => ?_)
                  have eS106 : S106 = q_X4_add_26 S61 v6 := hw
                  clear hw
                  have hW : gW E M S106 H := by rw [← ht]; exact hB
                  have hpS106 : S106.2.2 = S61.2.2 := by rw [eS106]; exact (qp_X4_add_26 _ _)
                  refine lv_iload hx hb dX10_followStretches_109 (lv_at hl 0 rfl) ?_
                  refine lv_istore (lv' := [(5, .int (1)), (7, .int (1)), (0, .ref (eC E 0)), (3, .int (p3)), (4, .int (v4)), (6, .int (v6))]) hx hb dX10_followStretches_111 hl (by decide) rfl (fun ls hl => ?_)
                  obtain ⟨x113, ex113⟩ : ∃ y : Int32, y = v6 + 1 := ⟨_, rfl⟩
                  refine lv_iinc (v := x113) (lv' := [(6, .int (x113)), (5, .int (1)), (7, .int (1)), (0, .ref (eC E 0)), (3, .int (p3)), (4, .int (v4))]) hx hb dX10_followStretches_113 hl (k := 5) rfl (by rw [ex113]; rfl) (by decide) rfl (fun ls hl => ?_)
                  refine lv_goto (tgt := 36) hx hb dX10_followStretches_116 (by decide) ?_
                  exact ih _ _ _ _ _ _ _ (by first | exact ⟨hi.1.st c41 (by decide) ex113, hi.2.st (by rw [eS61, eS50]; exact kw_tr (kw_cast _) (kw_setMinute _ _))⟩ | exact ⟨hi.1.st c41 (by decide) ex113, hi.2.st (by rw [eS106, eS61, eS50]; exact kw_tr (kw_add26 _ _) (kw_tr (kw_cast _) (kw_setMinute _ _)))⟩) (by rw [hq]; subst ex113; first | (simp only [q_X10_followStretches_b36, if_neg c41, if_pos c64, if_neg c81, if_pos c97, ← eS50, ← er61, ← eS61, ← eS106]; done) | contradiction) hW hS (lv_sub hl [3, 4, 5, 1, 0] rfl)
            · obtain ⟨x84, ex84⟩ : ∃ y : Int32, y = v4 + 1 := ⟨_, rfl⟩
              refine lv_iinc (v := x84) (lv' := [(4, .int (x84)), (7, .int (1)), (0, .ref (eC E 0)), (3, .int (p3)), (5, .int (v5)), (6, .int (v6))]) hx hb dX10_followStretches_84 hl (k := 3) rfl (by rw [ex84]; rfl) (by decide) rfl (fun ls hl => ?_)
              refine lv_iload hx hb dX10_followStretches_87 (lv_at hl 1 rfl) ?_
              refine lv_if_eq (tgt := 109) hx hb dX10_followStretches_89 (by decide) (fun c89 => ?_) (fun c89 => ?_)
              · exact absurd c89 (by decide)
              · refine lv_iload hx hb dX10_followStretches_92 (lv_at hl 0 rfl) ?_
                refine lv_iconst (v := 1) hx hb dX10_followStretches_94 (by decide) ?_
                refine lv_isub hx hb dX10_followStretches_95 ?_
                refine lv_iload_n hx hb dX10_followStretches_96 rfl (lv_at hl 3 rfl) ?_
                refine lv_icmp_ne (tgt := 109) hx hb dX10_followStretches_97 (by decide) (fun c97 => ?_) (fun c97 => ?_)
                · refine lv_iload hx hb dX10_followStretches_109 (lv_at hl 1 rfl) ?_
                  refine lv_istore (lv' := [(5, .int (1)), (4, .int (x84)), (7, .int (1)), (0, .ref (eC E 0)), (3, .int (p3)), (6, .int (v6))]) hx hb dX10_followStretches_111 hl (by decide) rfl (fun ls hl => ?_)
                  obtain ⟨x113, ex113⟩ : ∃ y : Int32, y = v6 + 1 := ⟨_, rfl⟩
                  refine lv_iinc (v := x113) (lv' := [(6, .int (x113)), (5, .int (1)), (4, .int (x84)), (7, .int (1)), (0, .ref (eC E 0)), (3, .int (p3))]) hx hb dX10_followStretches_113 hl (k := 5) rfl (by rw [ex113]; rfl) (by decide) rfl (fun ls hl => ?_)
                  refine lv_goto (tgt := 36) hx hb dX10_followStretches_116 (by decide) ?_
                  exact ih _ _ _ _ _ _ _ (by first | exact ⟨hi.1.st c41 (by decide) ex113, hi.2.st (by rw [eS61, eS50]; exact kw_tr (kw_cast _) (kw_setMinute _ _))⟩ | exact ⟨hi.1.st c41 (by decide) ex113, hi.2.st (by rw [eS106, eS61, eS50]; exact kw_tr (kw_add26 _ _) (kw_tr (kw_cast _) (kw_setMinute _ _)))⟩) (by rw [hq]; subst ex113; subst ex84; first | (simp only [q_X10_followStretches_b36, if_neg c41, if_pos c64, if_pos c81, if_neg c97, ← eS50, ← er61, ← eS61]; done) | contradiction) hW hS (lv_sub hl [4, 5, 2, 1, 0] rfl)
                · refine lv_aload_n hx hb dX10_followStretches_100 rfl (lv_at hl 2 rfl) ?_
                  refine va_get (D := eD E) (cl := vwCl) (tys := eT E) (ci := 9) (C := RX10) (T := TX10) (N := 12) (v := .ref (eC E 26)) hx hb hts hinX10 hown hE.1 hW.1 11 rfl rfl 11 (by decide) (hts (.fieldLink RX10 71 "DialGarden" "minutesOfStretch" "LDialGarden$Range;") (by decide +kernel)) (fun _ h9 => h9) rfl dX10_followStretches_101 ?_
                  refine lv_iload hx hb dX10_followStretches_104 (lv_at hl 5 rfl) ?_
                  refine va_callv (va_runV (As := [.int (v6)]) (rest := []) ⟨hx, hb, hml, hown, hts⟩ (c_X4_add_26 l E M S61 v6) (cwV 1 hts gX10_followStretches_X4_add rfl rfl rfl (by decide +kernel) ⟨Nat.le_of_ble_eq_true rfl, Nat.le_of_ble_eq_true rfl⟩) (gP.V (ci := 4) (q := (RX4, TX4, 3)) (q0 := 37) hE hS hW rfl rfl) rfl rfl hl.1 rfl (lv_room (Nat.le_of_ble_eq_true rfl)) dX10_followStretches_106 ⟨Nat.le_of_ble_eq_true rfl, Nat.le_of_ble_eq_true rfl⟩) hS (fun _ _ h => h) (fun _ h => h) (fun S106 t H locs ht hvm hw hB hzz hkk hS => ?_)
                  have eS106 : S106 = q_X4_add_26 S61 v6 := hw
                  clear hw
                  have hW : gW E M S106 H := by rw [← ht]; exact hB
                  have hpS106 : S106.2.2 = S61.2.2 := by rw [eS106]; exact (qp_X4_add_26 _ _)
                  refine lv_iload hx hb dX10_followStretches_109 (lv_at hl 1 rfl) ?_
                  refine lv_istore (lv' := [(5, .int (1)), (4, .int (x84)), (7, .int (1)), (0, .ref (eC E 0)), (3, .int (p3)), (6, .int (v6))]) hx hb dX10_followStretches_111 hl (by decide) rfl (fun ls hl => ?_)
                  obtain ⟨x113, ex113⟩ : ∃ y : Int32, y = v6 + 1 := ⟨_, rfl⟩
                  refine lv_iinc (v := x113) (lv' := [(6, .int (x113)), (5, .int (1)), (4, .int (x84)), (7, .int (1)), (0, .ref (eC E 0)), (3, .int (p3))]) hx hb dX10_followStretches_113 hl (k := 5) rfl (by rw [ex113]; rfl) (by decide) rfl (fun ls hl => ?_)
                  refine lv_goto (tgt := 36) hx hb dX10_followStretches_116 (by decide) ?_
                  exact ih _ _ _ _ _ _ _ (by first | exact ⟨hi.1.st c41 (by decide) ex113, hi.2.st (by rw [eS61, eS50]; exact kw_tr (kw_cast _) (kw_setMinute _ _))⟩ | exact ⟨hi.1.st c41 (by decide) ex113, hi.2.st (by rw [eS106, eS61, eS50]; exact kw_tr (kw_add26 _ _) (kw_tr (kw_cast _) (kw_setMinute _ _)))⟩) (by rw [hq]; subst ex113; subst ex84; first | (simp only [q_X10_followStretches_b36, if_neg c41, if_pos c64, if_pos c81, if_pos c97, ← eS50, ← er61, ← eS61, ← eS106]; done) | contradiction) hW hS (lv_sub hl [4, 5, 2, 1, 0] rfl)
  refine lv_aload_n hx hb dX10_followStretches_0 rfl (lv_at hl 0 rfl) ?_
  refine va_get (D := eD E) (cl := vwCl) (tys := eT E) (ci := 9) (C := RX10) (T := TX10) (N := 12) (v := .ref (eC E 26)) hx hb hts hinX10 hown hE.1 hW.1 11 rfl rfl 11 (by decide) (hts (.fieldLink RX10 71 "DialGarden" "minutesOfStretch" "LDialGarden$Range;") (by decide +kernel)) (fun _ h9 => h9) rfl dX10_followStretches_1 ?_
  refine va_callv (va_runV (As := []) (rest := []) ⟨hx, hb, hml, hown, hts⟩ (c_X4_clear_26 l E M S) (cwV 0 hts gX10_followStretches_X4_clear rfl rfl rfl (by decide +kernel) ⟨Nat.le_of_ble_eq_true rfl, Nat.le_of_ble_eq_true rfl⟩) (gP.V (ci := 4) (q := (RX4, TX4, 3)) (q0 := 37) hE hS hW rfl rfl) rfl rfl hl.1 rfl (lv_room (Nat.le_of_ble_eq_true rfl)) dX10_followStretches_4 ⟨Nat.le_of_ble_eq_true rfl, Nat.le_of_ble_eq_true rfl⟩) hS (fun _ _ h => h) (fun _ h => h) (fun S4 t H locs ht hvm hw hB hzz hkk hS => ?_)
  have eS4 : S4 = q_X4_clear_26 S := hw
  clear hw
  have hW : gW E M S4 H := by rw [← ht]; exact hB
  have hpS4 : S4.2.2 = S.2.2 := by rw [eS4]; exact (qp_X4_clear_26 _)
  refine lv_aload_n hx hb dX10_followStretches_7 rfl (lv_at hl 0 rfl) ?_
  refine va_get (D := eD E) (cl := vwCl) (tys := eT E) (ci := 9) (C := RX10) (T := TX10) (N := 12) (v := .ref (eC E 7)) hx hb hts hinX10 hown hE.1 hW.1 11 rfl rfl 3 (by decide) (hts (.fieldLink RX10 32 "DialGarden" "shade" "LDialGarden$Shade;") (by decide +kernel)) (fun _ h9 => h9) rfl dX10_followStretches_8 ?_
  refine lv_aload_n hx hb dX10_followStretches_11 rfl (lv_at hl 1 rfl) ?_
  refine lv_aload_n hx hb dX10_followStretches_12 rfl (lv_at hl 0 rfl) ?_
  refine va_get (D := eD E) (cl := vwCl) (tys := eT E) (ci := 9) (C := RX10) (T := TX10) (N := 12) (v := .ref (eC E 3)) hx hb hts hinX10 hown hE.1 hW.1 11 rfl rfl 1 (by decide) (hts (.fieldLink RX10 18 "DialGarden" "things" "[LDialGarden$Thing;") (by decide +kernel)) (fun _ h9 => h9) rfl dX10_followStretches_13 ?_
  refine va_callv (va_runV (As := [.ref (p1), .ref (eC E 3)]) (rest := []) ⟨hx, hb, hml, hown, hts⟩ (c_X6_setUp l E M S4 p1 (by rw [hpS4]; exact hL1) (by rw [hpS4]; exact hk1) (okR_of hT (by rw [eS4]; rfl))) (cwV 2 hts gX10_followStretches_X6_setUp rfl rfl rfl (by decide +kernel) ⟨Nat.le_of_ble_eq_true rfl, Nat.le_of_ble_eq_true rfl⟩) (gP.V (ci := 6) (q := (RX6, TX6, 13)) (q0 := 18) hE hS hW rfl rfl) rfl rfl hl.1 rfl (lv_room (Nat.le_of_ble_eq_true rfl)) dX10_followStretches_16 ⟨Nat.le_of_ble_eq_true rfl, Nat.le_of_ble_eq_true rfl⟩) hS (fun _ _ h => h) (fun _ h => h) (fun S16 t H locs ht hvm hw hB hzz hkk hS => ?_)
  have eS16 : S16 = q_X6_setUp S4 p1 := hw
  clear hw
  have hW : gW E M S16 H := by rw [← ht]; exact hB
  have hpS16 : S16.2.2 = S4.2.2 := by rw [eS16]; exact (qp_X6_setUp _ _)
  refine lv_aload_n hx hb dX10_followStretches_19 rfl (lv_at hl 0 rfl) ?_
  refine va_get (D := eD E) (cl := vwCl) (tys := eT E) (ci := 9) (C := RX10) (T := TX10) (N := 12) (v := .ref (eC E 1)) hx hb hts hinX10 hown hE.1 hW.1 11 rfl rfl 0 (by decide) (hts (.fieldLink RX10 10 "DialGarden" "sky" "LDialGarden$Sky;") (by decide +kernel)) (fun _ h9 => h9) rfl dX10_followStretches_20 ?_
  refine lv_iload_n hx hb dX10_followStretches_23 rfl (lv_at hl 2 rfl) ?_
  refine va_callv (va_runV (As := [.int (p2)]) (rest := []) ⟨hx, hb, hml, hown, hts⟩ (c_X8_setDay l E M S16 p2 (by rw [eS16]; exact (su_kZ hT hH hkn0 hkn (by rw [eS4]; rfl) (by rw [eS4]; rfl)).2.1.1) (by rw [eS16]; exact (su_kZ hT hH hkn0 hkn (by rw [eS4]; rfl) (by rw [eS4]; rfl)).2.1.2)) (cwV 1 hts gX10_followStretches_X8_setDay rfl rfl rfl (by decide +kernel) ⟨Nat.le_of_ble_eq_true rfl, Nat.le_of_ble_eq_true rfl⟩) (gP.V (ci := 8) (q := (RX8, TX8, 16)) (q0 := 12) hE hS hW rfl rfl) rfl rfl hl.1 rfl (lv_room (Nat.le_of_ble_eq_true rfl)) dX10_followStretches_24 ⟨Nat.le_of_ble_eq_true rfl, Nat.le_of_ble_eq_true rfl⟩) hS (fun _ _ h => h) (fun _ h => h) (fun S24 t H locs ht hvm hw hB hzz hkk hS => ?_)
  have eS24 : S24 = q_X8_setDay S16 p2 := hw
  clear hw
  have hW : gW E M S24 H := by rw [← ht]; exact hB
  have hpS24 : S24.2.2 = S16.2.2 := by rw [eS24]; exact (qp_X8_setDay _ _)
  refine lv_iconst (v := 0) hx hb dX10_followStretches_27 (by decide) ?_
  refine lv_istore (lv' := [(4, .int (0)), (0, .ref (eC E 0)), (1, .ref (p1)), (2, .int (p2)), (3, .int (p3))]) hx hb dX10_followStretches_28 hl (by decide) rfl (fun ls hl => ?_)
  refine lv_iconst (v := 0) hx hb dX10_followStretches_30 (by decide) ?_
  refine lv_istore (lv' := [(5, .int (0)), (4, .int (0)), (0, .ref (eC E 0)), (1, .ref (p1)), (2, .int (p2)), (3, .int (p3))]) hx hb dX10_followStretches_31 hl (by decide) rfl (fun ls hl => ?_)
  refine lv_iconst (v := 0) hx hb dX10_followStretches_33 (by decide) ?_
  refine lv_istore (lv' := [(6, .int (0)), (5, .int (0)), (4, .int (0)), (0, .ref (eC E 0)), (1, .ref (p1)), (2, .int (p2)), (3, .int (p3))]) hx hb dX10_followStretches_34 hl (by decide) rfl (fun ls hl => ?_)
  exact L36 1441 _ _ _ _ _ _ _ (by exact ⟨gL.i 1440, by rw [eS24, eS16]; exact (su_kZ hT hH hkn0 hkn (by rw [eS4]; rfl) (by rw [eS4]; rfl)).st (kw_setDay _ _)⟩) (by first | (simp only [q_X10_followStretches, ← eS4, ← eS16, ← eS24]; done) | contradiction) hW hS (lv_sub hl [3, 6, 2, 1, 0] rfl)
