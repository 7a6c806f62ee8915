def q_X11_agrees_b5 (M : gSm) (p1 : Int32) (p2 : Int32) : Nat → Int32 → Int32 → gSm → Int32 × gSm
  | 0, v3, v4, Z => (0, Z)
  | n + 1, v3, v4, Z => (if (Z.1 0 8) ≤ v4 then (v3, Z) else (if v3 = 0 then (v3, Z) else (let r23 := q_X11_get Z p1 4; (let r49 := (q_X11_stateOf Z p1 ((r23 + p2).toInt64) (Z.1 5 ((4 * v4).toNatClampNeg)) (Z.1 5 (((4 * v4) + 1).toNatClampNeg))).1; let M49 := (q_X11_stateOf Z p1 ((r23 + p2).toInt64) (Z.1 5 ((4 * v4).toNatClampNeg)) (Z.1 5 (((4 * v4) + 1).toNatClampNeg))).2; (if r49 = 0 then (let r86 := q_X11_isIn ((M49.2 0 14) - ((M49.1 5 (((4 * v4) + 2).toNatClampNeg)).toInt64)) (-1) 1; (if r86 = 0 then (let x125 := v4 + 1; q_X11_agrees_b5 M p1 p2 n 0 x125 M49) else (let r113 := q_X11_isIn ((M49.2 0 15) - ((M49.1 5 (((4 * v4) + 3).toNatClampNeg)).toInt64)) (-1) 1; (if r113 = 0 then (let x125 := v4 + 1; q_X11_agrees_b5 M p1 p2 n 0 x125 M49) else (let x125 := v4 + 1; q_X11_agrees_b5 M p1 p2 n 1 x125 M49))))) else (let x125 := v4 + 1; q_X11_agrees_b5 M p1 p2 n 0 x125 M49))))))
def q_X11_agrees (M : gSm) (p1 : Int32) (p2 : Int32) : Int32 × gSm := q_X11_agrees_b5 M p1 p2 22 1 0 M
set_option maxHeartbeats 4000000 in
set_option maxRecDepth 100000 in
theorem c_X11_agrees (l : Launch) (E : gEE) (M : gSm) (S : gSc) (p1 : Int32) (p2 : Int32) (hp : isP p1) (hc : (M.1 0 6).toInt ≤ 366) (hs0 : 0 ≤ (M.1 0 8).toInt) (hs : (M.1 0 8).toInt ≤ 20) (hsd : ∀ j, j < 20 → 0 ≤ (M.1 5 (4 * j)).toInt) : Met l yX11_agrees wsX11_agrees ({ frames := 5, cells := 0, slots := 0, locals := 133 }) (va_Pc [.ref (eM E 0), .int (p1), .int (p2)] (gP E M S)) (va_Qi (fun r (u : gSm) => (r, u) = q_X11_agrees M p1 p2) (fun u t => gW E u S t.heap) (eA E)) 0 0 (eA E) := by
  refine Met.ofW (cc := cX11_agrees) (maxL := 5) (ret := (some .boolean)) (by decide) rfl ?_
  intro p e s m args below meth c s₁ B hml hv
  obtain ⟨rfl, hE, hW⟩ := hv
  have hx := B.exec
  have hb := B.bytes
  have hr := B.returns
  have hts := atoms_spec (ws := wsX11_agrees) B.pre
  have hown : s.vm.findClass RX11 = some m.cls := findClass_of_methodNamed B.named
  have hlocks := B.notSynchronized
  have hinX11 : ∀ w ∈ wsX110, w ∈ wsX11_agrees := by decide +kernel
  have hS : va_S (eA E) s.heap s.heap [] := va_S.rf
  have hl := lv_entry ([.ref (eM E 0), .int (p1), .int (p2)]) (n := 5) (Nat.le_of_ble_eq_true rfl)
  rw [lg_entry_eq]
  generalize (lg_sl ([.ref (eM E 0), .int (p1), .int (p2)]) ++ List.replicate (5 - (lg_sl ([.ref (eM E 0), .int (p1), .int (p2)])).length) Slot.unset).toArray = ls at hl ⊢
  have hl : lv_has ls 5 [(0, .ref (eM E 0)), (1, .int (p1)), (2, .int (p2))] := hl
  have hS : ∃ (H : Heap) (locs : List Loc), H = s.heap ∧ locs = [] ∧ gW E M S H ∧ va_S (eA E) s.heap H locs := ⟨_, _, rfl, rfl, hW, hS⟩
  clear hW
  obtain ⟨H, locs, eH, el, hW, hS⟩ := hS
  rw [← eH, ← el]
  clear eH el
  have L5 : ∀ n : Nat, ∀ (v3 : Int32) (v4 : Int32) (Z : gSm) (H : Heap) (locs : List Loc) (ls : Array Slot), ((0 ≤ v4.toInt ∧ 20 < v4.toInt + n ∧ v4.toInt ≤ 20) ∧ okS Z ∧ (v3 = 0 ∨ v3 = 1)) → q_X11_agrees M p1 p2 = q_X11_agrees_b5 M p1 p2 n v3 v4 Z → gW E Z S H → va_S (eA E) s.heap H locs → lv_has ls 5 [(0, .ref (eM E 0)), (1, .int (p1)), (2, .int (p2)), (3, .int (v3)), (4, .int (v4))] → W p l e (headSpec wsX11_agrees ({ frames := 5, cells := 0, slots := 0, locals := 133 })).room s m ([.ref (eM E 0), .int (p1), .int (p2)] : List Value).toArray below meth c H locs 0 0 (MQ below (va_Qi (fun r (u : gSm) => (r, u) = q_X11_agrees M p1 p2) (fun u t => gW E u S t.heap) (eA E)) ([.ref (eM E 0), .int (p1), .int (p2)] : List Value).toArray s 0 0 (eA E)) (F0 m 5 ls []) := by
    intro n
    induction n with
    | zero =>
      intro v3 v4 Z H locs ls hi hq hW hS hl
      exact absurd hi.1.2.1 (by have := hi.1.2.2; omega)
    | succ n ih =>
      intro v3 v4 Z H locs ls hi hq hW hS hl
      refine lv_iload hx hb dX11_agrees_5 (lv_at hl 4 rfl) ?_
      refine lv_aload_n hx hb dX11_agrees_7 rfl (lv_at hl 0 rfl) ?_
      refine va_get (D := eD E) (cl := vwCl) (tys := eT E) (ci := 10) (C := RX11) (T := TX11) (N := 23) (v := .int (Z.1 0 8)) hx hb hts hinX11 hown hE.1 hW.1 0 rfl rfl 8 (by decide) (hts (.fieldLink RX11 250 "DialGardenModel" "sightCount" "I") (by decide +kernel)) (fun _ h9 => h9) rfl dX11_agrees_8 ?_
      refine lv_icmp_ge (tgt := 131) hx hb dX11_agrees_11 (by decide) (fun c11 => ?_) (fun c11 => ?_)
      · refine lv_iload_n hx hb dX11_agrees_131 rfl (lv_at hl 3 rfl) ?_
        exact W.zret (v := v3) hx hb hr (gB hi.2.2) (fun t ht _ => ⟨⟨v3, Z, rfl, by rw [hq]; first | (simp only [q_X11_agrees_b5, if_pos c11]; done) | contradiction, by dsimp only; rw [ht]; exact hW⟩, hS.F ht⟩) hS.2.2 dX11_agrees_132
      · refine lv_iload_n hx hb dX11_agrees_14 rfl (lv_at hl 3 rfl) ?_
        refine lv_if_eq (tgt := 131) hx hb dX11_agrees_15 (by decide) (fun c15 => ?_) (fun c15 => ?_)
        · refine lv_iload_n hx hb dX11_agrees_131 rfl (lv_at hl 3 rfl) ?_
          exact W.zret (v := v3) hx hb hr (gB hi.2.2) (fun t ht _ => ⟨⟨v3, Z, rfl, by rw [hq]; first | (simp only [q_X11_agrees_b5, if_neg c11, if_pos c15]; done) | contradiction, by dsimp only; rw [ht]; exact hW⟩, hS.F ht⟩) hS.2.2 dX11_agrees_132
        · refine lv_aload_n hx hb dX11_agrees_18 rfl (lv_at hl 0 rfl) ?_
          refine lv_iload_n hx hb dX11_agrees_19 rfl (lv_at hl 1 rfl) ?_
          refine lv_aload_n hx hb dX11_agrees_20 rfl (lv_at hl 0 rfl) ?_
          refine lv_iload_n hx hb dX11_agrees_21 rfl (lv_at hl 1 rfl) ?_
          refine lv_iconst (v := 4) hx hb dX11_agrees_22 (by decide) ?_
          refine k_Si (va_runV (As := [.int (p1), .int (4)]) (rest := [.int (p1), .ref (eM E 0)]) ⟨hx, hb, hml, hown, hts⟩ (c_X11_get l E Z S p1 4 (gx hp (by decide))) (cwV 2 hts gX11_agrees_X11_get rfl rfl rfl (by decide +kernel) ⟨Nat.le_of_ble_eq_true rfl, Nat.le_of_ble_eq_true rfl⟩) (gP.V (ci := 10) (q := (RX11, TX11, 23)) (q0 := 0) hE hS hW rfl rfl) rfl rfl hl.1 rfl (lv_room (Nat.le_of_ble_eq_true rfl)) dX11_agrees_23 ⟨Nat.le_of_ble_eq_true rfl, Nat.le_of_ble_eq_true rfl⟩) (fun r23 er23 => ?_)
          refine lv_iload_n hx hb dX11_agrees_26 rfl (lv_at hl 2 rfl) ?_
          refine lv_iadd hx hb dX11_agrees_27 ?_
          refine lv_i2l (v := (r23 + p2).toInt64) hx hb dX11_agrees_28 rfl ?_
          refine lv_aload_n hx hb dX11_agrees_29 rfl (lv_at hl 0 rfl) ?_
          refine va_get (D := eD E) (cl := vwCl) (tys := eT E) (ci := 10) (C := RX11) (T := TX11) (N := 23) (v := .ref (eM E 5)) hx hb hts hinX11 hown hE.1 hW.1 0 rfl rfl 7 (by decide) (hts (.fieldLink RX11 26 "DialGardenModel" "sights" "[I") (by decide +kernel)) (fun _ h9 => h9) rfl dX11_agrees_30 ?_
          refine lv_iconst (v := 4) hx hb dX11_agrees_33 (by decide) ?_
          refine lv_iload hx hb dX11_agrees_34 (lv_at hl 4 rfl) ?_
          refine lv_imul hx hb dX11_agrees_36 ?_
          refine va_iald (D := eD E) (cl := vwCl) (tys := eT E) (f := Z.1 5) hx hb hE.1 hW.1 5 0 rfl rfl (ag_0 hi.2.1 hi.1 c11) dX11_agrees_37 ?_
          refine lv_aload_n hx hb dX11_agrees_38 rfl (lv_at hl 0 rfl) ?_
          refine va_get (D := eD E) (cl := vwCl) (tys := eT E) (ci := 10) (C := RX11) (T := TX11) (N := 23) (v := .ref (eM E 5)) hx hb hts hinX11 hown hE.1 hW.1 0 rfl rfl 7 (by decide) (hts (.fieldLink RX11 26 "DialGardenModel" "sights" "[I") (by decide +kernel)) (fun _ h9 => h9) rfl dX11_agrees_39 ?_
          refine lv_iconst (v := 4) hx hb dX11_agrees_42 (by decide) ?_
          refine lv_iload hx hb dX11_agrees_43 (lv_at hl 4 rfl) ?_
          refine lv_imul hx hb dX11_agrees_45 ?_
          refine lv_iconst (v := 1) hx hb dX11_agrees_46 (by decide) ?_
          refine lv_iadd hx hb dX11_agrees_47 ?_
          refine va_iald (D := eD E) (cl := vwCl) (tys := eT E) (f := Z.1 5) hx hb hE.1 hW.1 5 0 rfl rfl (ag_k hi.2.1 hi.1 c11 (by decide)) dX11_agrees_48 ?_
          refine va_calli (va_runV (As := [.int (p1), .long ((r23 + p2).toInt64), .int (Z.1 5 ((4 * v4).toNatClampNeg)), .int (Z.1 5 (((4 * v4) + 1).toNatClampNeg))]) (rest := []) ⟨hx, hb, hml, hown, hts⟩ (c_X11_stateOf l E Z S p1 ((r23 + p2).toInt64) (Z.1 5 ((4 * v4).toNatClampNeg)) (Z.1 5 (((4 * v4) + 1).toNatClampNeg)) hp (ag_d hi.2.1 hi.1 c11) hi.2.1.1) (cwV 4 hts gX11_agrees_X11_stateOf rfl rfl rfl (by decide +kernel) ⟨Nat.le_of_ble_eq_true rfl, Nat.le_of_ble_eq_true rfl⟩) (gP.V (ci := 10) (q := (RX11, TX11, 23)) (q0 := 0) hE hS hW rfl rfl) rfl rfl hl.1 rfl (lv_room (Nat.le_of_ble_eq_true rfl)) dX11_agrees_49 ⟨Nat.le_of_ble_eq_true rfl, Nat.le_of_ble_eq_true rfl⟩) hS (fun _ _ h => h) (fun _ h => h) (fun r49 M49 t H locs ht hvm hw hB hz1 hk1 hS => ?_)
          obtain ⟨er49, eM49⟩ := prj hw
          clear hw
          have hW : gW E M49 S H := by rw [← ht]; exact hB
          refine lv_if_ne (tgt := 59) hx hb dX11_agrees_52 (by decide) (fun c52 => ?_) (fun c52 => ?_)
          · refine lv_iconst (v := 0) hx hb dX11_agrees_59 (by decide) ?_
            refine lv_istore_n (lv' := [(3, .int (0)), (0, .ref (eM E 0)), (1, .int (p1)), (2, .int (p2)), (4, .int (v4))]) hx hb dX11_agrees_60 rfl hl (by decide) rfl (fun ls hl => ?_)
            refine lv_iload_n hx hb dX11_agrees_61 rfl (lv_at hl 0 rfl) ?_
            refine lv_if_eq (tgt := 123) hx hb dX11_agrees_62 (by decide) (fun c62 => ?_) (fun c62 => ?_)
            · refine lv_iconst (v := 0) hx hb dX11_agrees_123 (by decide) ?_
              refine lv_istore_n (lv' := [(3, .int (0)), (0, .ref (eM E 0)), (1, .int (p1)), (2, .int (p2)), (4, .int (v4))]) hx hb dX11_agrees_124 rfl hl (by decide) rfl (fun ls hl => ?_)
              obtain ⟨x125, ex125⟩ : ∃ y : Int32, y = v4 + 1 := ⟨_, rfl⟩
              refine lv_iinc (v := x125) (lv' := [(4, .int (x125)), (3, .int (0)), (0, .ref (eM E 0)), (1, .int (p1)), (2, .int (p2))]) hx hb dX11_agrees_125 hl (k := 4) rfl (by rw [ex125]; rfl) (by decide) rfl (fun ls hl => ?_)
              refine lv_goto (tgt := 5) hx hb dX11_agrees_128 (by decide) ?_
              exact ih _ _ _ _ _ _ (by exact ⟨ag_st hi.1 c11 hi.2.1 ex125, by first | exact hi.2.1 | (rw [eM49]; exact okS_st hi.2.1), by decide⟩) (by rw [hq]; subst ex125; subst eM49; subst er49; subst er23; first | (simp only [q_X11_agrees_b5, if_neg c11, if_neg c15, if_neg c52]; done) | contradiction) hW hS (lv_sub hl [2, 3, 4, 1, 0] rfl)
            · exact absurd c62 (by decide)
          · refine lv_iconst (v := 1) hx hb dX11_agrees_55 (by decide) ?_
            refine lv_goto (tgt := 60) hx hb dX11_agrees_56 (by decide) ?_
            refine lv_istore_n (lv' := [(3, .int (1)), (0, .ref (eM E 0)), (1, .int (p1)), (2, .int (p2)), (4, .int (v4))]) hx hb dX11_agrees_60 rfl hl (by decide) rfl (fun ls hl => ?_)
            refine lv_iload_n hx hb dX11_agrees_61 rfl (lv_at hl 0 rfl) ?_
            refine lv_if_eq (tgt := 123) hx hb dX11_agrees_62 (by decide) (fun c62 => ?_) (fun c62 => ?_)
            · exact absurd c62 (by decide)
            · refine lv_aload_n hx hb dX11_agrees_65 rfl (lv_at hl 1 rfl) ?_
              refine va_get (D := eD E) (cl := vwCl) (tys := eT E) (ci := 10) (C := RX11) (T := TX11) (N := 23) (v := .long (M49.2 0 14)) hx hb hts hinX11 hown hE.1 hW.1 0 rfl rfl 14 (by decide) (hts (.fieldLink RX11 189 "DialGardenModel" "endX" "J") (by decide +kernel)) (fun _ h9 => h9) rfl dX11_agrees_66 ?_
              refine lv_aload_n hx hb dX11_agrees_69 rfl (lv_at hl 1 rfl) ?_
              refine va_get (D := eD E) (cl := vwCl) (tys := eT E) (ci := 10) (C := RX11) (T := TX11) (N := 23) (v := .ref (eM E 5)) hx hb hts hinX11 hown hE.1 hW.1 0 rfl rfl 7 (by decide) (hts (.fieldLink RX11 26 "DialGardenModel" "sights" "[I") (by decide +kernel)) (fun _ h9 => h9) rfl dX11_agrees_70 ?_
              refine lv_iconst (v := 4) hx hb dX11_agrees_73 (by decide) ?_
              refine lv_iload hx hb dX11_agrees_74 (lv_at hl 4 rfl) ?_
              refine lv_imul hx hb dX11_agrees_76 ?_
              refine lv_iconst (v := 2) hx hb dX11_agrees_77 (by decide) ?_
              refine lv_iadd hx hb dX11_agrees_78 ?_
              refine va_iald (D := eD E) (cl := vwCl) (tys := eT E) (f := M49.1 5) hx hb hE.1 hW.1 5 0 rfl rfl (ag_k hi.2.1 hi.1 c11 (by decide)) dX11_agrees_79 ?_
              refine lv_i2l (v := (M49.1 5 (((4 * v4) + 2).toNatClampNeg)).toInt64) hx hb dX11_agrees_80 rfl ?_
              refine lv_lsub hx hb dX11_agrees_81 ?_
              refine lv_ldc2 hx hb (v := (-1)) hown (hts (.constantLong RX11 244 (-1)) (by decide +kernel)) dX11_agrees_82 ?_
              refine lv_lconst (v := 1) hx hb dX11_agrees_85 (by decide) ?_
              refine k_Si (va_runS (As := [.long ((M49.2 0 14) - ((M49.1 5 (((4 * v4) + 2).toNatClampNeg)).toInt64)), .long ((-1)), .long (1)]) (rest := []) ⟨hx, hb, hml, hown, hts⟩ (c_X11_isIn l ((M49.2 0 14) - ((M49.1 5 (((4 * v4) + 2).toNatClampNeg)).toInt64)) (-1) 1) (va_cwS 3 hts gX11_agrees_X11_isIn rfl rfl rfl (by decide +kernel) ⟨Nat.le_of_ble_eq_true rfl, Nat.le_of_ble_eq_true rfl⟩) gP0 rfl rfl hl.1 rfl (lv_room (Nat.le_of_ble_eq_true rfl)) dX11_agrees_86 ⟨Nat.le_of_ble_eq_true rfl, Nat.le_of_ble_eq_true rfl⟩) (fun r86 er86 => ?_)
              refine lv_if_eq (tgt := 123) hx hb dX11_agrees_89 (by decide) (fun c89 => ?_) (fun c89 => ?_)
              · refine lv_iconst (v := 0) hx hb dX11_agrees_123 (by decide) ?_
                refine lv_istore_n (lv' := [(3, .int (0)), (0, .ref (eM E 0)), (1, .int (p1)), (2, .int (p2)), (4, .int (v4))]) hx hb dX11_agrees_124 rfl hl (by decide) rfl (fun ls hl => ?_)
                obtain ⟨x125, ex125⟩ : ∃ y : Int32, y = v4 + 1 := ⟨_, rfl⟩
                refine lv_iinc (v := x125) (lv' := [(4, .int (x125)), (3, .int (0)), (0, .ref (eM E 0)), (1, .int (p1)), (2, .int (p2))]) hx hb dX11_agrees_125 hl (k := 4) rfl (by rw [ex125]; rfl) (by decide) rfl (fun ls hl => ?_)
                refine lv_goto (tgt := 5) hx hb dX11_agrees_128 (by decide) ?_
                exact ih _ _ _ _ _ _ (by exact ⟨ag_st hi.1 c11 hi.2.1 ex125, by first | exact hi.2.1 | (rw [eM49]; exact okS_st hi.2.1), by decide⟩) (by rw [hq]; subst ex125; subst er86; subst eM49; subst er49; subst er23; first | (simp only [q_X11_agrees_b5, if_neg c11, if_neg c15, if_pos c52, if_pos c89]; done) | contradiction) hW hS (lv_sub hl [2, 3, 4, 1, 0] rfl)
              · refine lv_aload_n hx hb dX11_agrees_92 rfl (lv_at hl 1 rfl) ?_
                refine va_get (D := eD E) (cl := vwCl) (tys := eT E) (ci := 10) (C := RX11) (T := TX11) (N := 23) (v := .long (M49.2 0 15)) hx hb hts hinX11 hown hE.1 hW.1 0 rfl rfl 15 (by decide) (hts (.fieldLink RX11 192 "DialGardenModel" "endY" "J") (by decide +kernel)) (fun _ h9 => h9) rfl dX11_agrees_93 ?_
                refine lv_aload_n hx hb dX11_agrees_96 rfl (lv_at hl 1 rfl) ?_
                refine va_get (D := eD E) (cl := vwCl) (tys := eT E) (ci := 10) (C := RX11) (T := TX11) (N := 23) (v := .ref (eM E 5)) hx hb hts hinX11 hown hE.1 hW.1 0 rfl rfl 7 (by decide) (hts (.fieldLink RX11 26 "DialGardenModel" "sights" "[I") (by decide +kernel)) (fun _ h9 => h9) rfl dX11_agrees_97 ?_
                refine lv_iconst (v := 4) hx hb dX11_agrees_100 (by decide) ?_
                refine lv_iload hx hb dX11_agrees_101 (lv_at hl 4 rfl) ?_
                refine lv_imul hx hb dX11_agrees_103 ?_
                refine lv_iconst (v := 3) hx hb dX11_agrees_104 (by decide) ?_
                refine lv_iadd hx hb dX11_agrees_105 ?_
                refine va_iald (D := eD E) (cl := vwCl) (tys := eT E) (f := M49.1 5) hx hb hE.1 hW.1 5 0 rfl rfl (ag_k hi.2.1 hi.1 c11 (by decide)) dX11_agrees_106 ?_
                refine lv_i2l (v := (M49.1 5 (((4 * v4) + 3).toNatClampNeg)).toInt64) hx hb dX11_agrees_107 rfl ?_
                refine lv_lsub hx hb dX11_agrees_108 ?_
                refine lv_ldc2 hx hb (v := (-1)) hown (hts (.constantLong RX11 244 (-1)) (by decide +kernel)) dX11_agrees_109 ?_
                refine lv_lconst (v := 1) hx hb dX11_agrees_112 (by decide) ?_
                refine k_Si (va_runS (As := [.long ((M49.2 0 15) - ((M49.1 5 (((4 * v4) + 3).toNatClampNeg)).toInt64)), .long ((-1)), .long (1)]) (rest := []) ⟨hx, hb, hml, hown, hts⟩ (c_X11_isIn l ((M49.2 0 15) - ((M49.1 5 (((4 * v4) + 3).toNatClampNeg)).toInt64)) (-1) 1) (va_cwS 3 hts gX11_agrees_X11_isIn rfl rfl rfl (by decide +kernel) ⟨Nat.le_of_ble_eq_true rfl, Nat.le_of_ble_eq_true rfl⟩) gP0 rfl rfl hl.1 rfl (lv_room (Nat.le_of_ble_eq_true rfl)) dX11_agrees_113 ⟨Nat.le_of_ble_eq_true rfl, Nat.le_of_ble_eq_true rfl⟩) (fun r113 er113 => ?_)
                refine lv_if_eq (tgt := 123) hx hb dX11_agrees_116 (by decide) (fun c116 => ?_) (fun c116 => ?_)
                · refine lv_iconst (v := 0) hx hb dX11_agrees_123 (by decide) ?_
                  refine lv_istore_n (lv' := [(3, .int (0)), (0, .ref (eM E 0)), (1, .int (p1)), (2, .int (p2)), (4, .int (v4))]) hx hb dX11_agrees_124 rfl hl (by decide) rfl (fun ls hl => ?_)
                  obtain ⟨x125, ex125⟩ : ∃ y : Int32, y = v4 + 1 := ⟨_, rfl⟩
                  refine lv_iinc (v := x125) (lv' := [(4, .int (x125)), (3, .int (0)), (0, .ref (eM E 0)), (1, .int (p1)), (2, .int (p2))]) hx hb dX11_agrees_125 hl (k := 4) rfl (by rw [ex125]; rfl) (by decide) rfl (fun ls hl => ?_)
                  refine lv_goto (tgt := 5) hx hb dX11_agrees_128 (by decide) ?_
                  exact ih _ _ _ _ _ _ (by exact ⟨ag_st hi.1 c11 hi.2.1 ex125, by first | exact hi.2.1 | (rw [eM49]; exact okS_st hi.2.1), by decide⟩) (by rw [hq]; subst ex125; subst er113; subst er86; subst eM49; subst er49; subst er23; first | (simp only [q_X11_agrees_b5, if_neg c11, if_neg c15, if_pos c52, if_neg c89, if_pos c116]; done) | contradiction) hW hS (lv_sub hl [2, 3, 4, 1, 0] rfl)
                · refine lv_iconst (v := 1) hx hb dX11_agrees_119 (by decide) ?_
                  refine lv_goto (tgt := 124) hx hb dX11_agrees_120 (by decide) ?_
                  refine lv_istore_n (lv' := [(3, .int (1)), (0, .ref (eM E 0)), (1, .int (p1)), (2, .int (p2)), (4, .int (v4))]) hx hb dX11_agrees_124 rfl hl (by decide) rfl (fun ls hl => ?_)
                  obtain ⟨x125, ex125⟩ : ∃ y : Int32, y = v4 + 1 := ⟨_, rfl⟩
                  refine lv_iinc (v := x125) (lv' := [(4, .int (x125)), (3, .int (1)), (0, .ref (eM E 0)), (1, .int (p1)), (2, .int (p2))]) hx hb dX11_agrees_125 hl (k := 4) rfl (by rw [ex125]; rfl) (by decide) rfl (fun ls hl => ?_)
                  refine lv_goto (tgt := 5) hx hb dX11_agrees_128 (by decide) ?_
                  exact ih _ _ _ _ _ _ (by exact ⟨ag_st hi.1 c11 hi.2.1 ex125, by first | exact hi.2.1 | (rw [eM49]; exact okS_st hi.2.1), by decide⟩) (by rw [hq]; subst ex125; subst er113; subst er86; subst eM49; subst er49; subst er23; first | (simp only [q_X11_agrees_b5, if_neg c11, if_neg c15, if_pos c52, if_neg c89, if_neg c116]; done) | contradiction) hW hS (lv_sub hl [2, 3, 4, 1, 0] rfl)
  refine lv_iconst (v := 1) hx hb dX11_agrees_0 (by decide) ?_
  refine lv_istore_n (lv' := [(3, .int (1)), (0, .ref (eM E 0)), (1, .int (p1)), (2, .int (p2))]) hx hb dX11_agrees_1 rfl hl (by decide) rfl (fun ls hl => ?_)
  refine lv_iconst (v := 0) hx hb dX11_agrees_2 (by decide) ?_
  refine lv_istore (lv' := [(4, .int (0)), (3, .int (1)), (0, .ref (eM E 0)), (1, .int (p1)), (2, .int (p2))]) hx hb dX11_agrees_3 hl (by decide) rfl (fun ls hl => ?_)
  exact L5 22 _ _ _ _ _ _ (by exact ⟨by decide, ⟨hc, hs0, hs, hsd⟩, Or.inr rfl⟩) (by first | (simp only [q_X11_agrees]; done) | contradiction) hW hS (lv_sub hl [2, 3, 4, 1, 0] rfl)
