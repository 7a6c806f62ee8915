def q_X10_hides (S : gSc) (p1 : Int32) (p2 : Int32) (p3 : Int32) : Int32 × gSc := (let r1 := q_X10_isPlace p1; (if r1 = 0 then ((-2000000001), S) else (let r9 := q_X10_isTime p2 p3; (if r9 = 0 then ((-2000000001), S) else (match q_X10_dialAt S p1 0 with | none => ((-2000000002), S) | some a21 => (let r39 := (q_X10_stateOf S a21 p2 p3).1; let S39 := (q_X10_stateOf S a21 p2 p3).2; (if r39 = 3 then (S39.1 7 11, S39) else ((-2000000005), S39))))))))
set_option maxHeartbeats 4000000 in
set_option maxRecDepth 100000 in
theorem c_X10_hides (l : Launch) (E : gEE) (M : gSm) (S : gSc) (p1 : Int32) (p2 : Int32) (p3 : Int32) (hT : okR S 3 40) (hH : okH S) (hkn0 : 0 ≤ (S.1 1 1).toInt) (hkn : (S.1 1 1).toInt ≤ 366) : Met l yX10_hides wsX10_hides ({ frames := 6, cells := 0, slots := 0, locals := 137 }) (va_Pc [.ref (eC E 0), .int (p1), .int (p2), .int (p3)] (gP E M S)) (va_Qi (fun r (u : gSc) => (r, u) = q_X10_hides S p1 p2 p3) (fun u t => gW E M u t.heap) (eA E)) 0 0 (eA E) := by
  refine Met.ofW (cc := cX10_hides) (maxL := 5) (ret := (some .int)) (by decide) rfl ?_
  intro p e s m args below meth c s₁ B hml hv
  obtain ⟨rfl, hE, hW⟩ := hv
  have hx := B.exec
  have hb := B.bytes
  have hr := B.returns
  have hts := atoms_spec (ws := wsX10_hides) B.pre
  have hown : s.vm.findClass RX10 = some m.cls := findClass_of_methodNamed B.named
  have hlocks := B.notSynchronized
  have hinX10 : ∀ w ∈ wsX100, w ∈ wsX10_hides := by decide +kernel
  have hinX6 : ∀ w ∈ wsX60, w ∈ wsX10_hides := by decide +kernel
  have hS : va_S (eA E) s.heap s.heap [] := va_S.rf
  have hl := lv_entry ([.ref (eC E 0), .int (p1), .int (p2), .int (p3)]) (n := 5) (Nat.le_of_ble_eq_true rfl)
  rw [lg_entry_eq]
  generalize (lg_sl ([.ref (eC E 0), .int (p1), .int (p2), .int (p3)]) ++ List.replicate (5 - (lg_sl ([.ref (eC E 0), .int (p1), .int (p2), .int (p3)])).length) Slot.unset).toArray = ls at hl ⊢
  have hl : lv_has ls 5 [(0, .ref (eC E 0)), (1, .int (p1)), (2, .int (p2)), (3, .int (p3))] := hl
  have hS : ∃ (H : Heap) (locs : List Loc), H = s.heap ∧ locs = [] ∧ gW E M S H ∧ va_S (eA E) s.heap H locs := ⟨_, _, rfl, rfl, hW, hS⟩
  clear hW
  obtain ⟨H, locs, eH, el, hW, hS⟩ := hS
  rw [← eH, ← el]
  clear eH el
  refine lv_iload_n hx hb dX10_hides_0 rfl (lv_at hl 1 rfl) ?_
  refine k_Si (va_runS (As := [.int (p1)]) (rest := []) ⟨hx, hb, hml, hown, hts⟩ (c_X10_isPlace l p1) (va_cwS 1 hts gX10_hides_X10_isPlace rfl rfl rfl (by decide +kernel) ⟨Nat.le_of_ble_eq_true rfl, Nat.le_of_ble_eq_true rfl⟩) gP0 rfl rfl hl.1 rfl (lv_room (Nat.le_of_ble_eq_true rfl)) dX10_hides_1 ⟨Nat.le_of_ble_eq_true rfl, Nat.le_of_ble_eq_true rfl⟩) (fun r1 er1 => ?_)
  refine lv_if_eq (tgt := 15) hx hb dX10_hides_4 (by decide) (fun c4 => ?_) (fun c4 => ?_)
  · refine lv_ldc hx hb (v := (-2000000001)) hown (hts (.constant RX10 86 (-2000000001)) (by decide +kernel)) dX10_hides_15 ?_
    exact W.iret (v := (-2000000001)) hx hb hr (fun t ht _ => ⟨⟨(-2000000001), S, rfl, by subst er1; first | (simp only [q_X10_hides, if_pos c4]; done) | contradiction, by dsimp only; rw [ht]; exact hW⟩, hS.F ht⟩) hS.2.2 dX10_hides_17
  · refine lv_iload_n hx hb dX10_hides_7 rfl (lv_at hl 2 rfl) ?_
    refine lv_iload_n hx hb dX10_hides_8 rfl (lv_at hl 3 rfl) ?_
    refine k_Si (va_runS (As := [.int (p2), .int (p3)]) (rest := []) ⟨hx, hb, hml, hown, hts⟩ (c_X10_isTime l p2 p3) (va_cwS 2 hts gX10_hides_X10_isTime rfl rfl rfl (by decide +kernel) ⟨Nat.le_of_ble_eq_true rfl, Nat.le_of_ble_eq_true rfl⟩) gP0 rfl rfl hl.1 rfl (lv_room (Nat.le_of_ble_eq_true rfl)) dX10_hides_9 ⟨Nat.le_of_ble_eq_true rfl, Nat.le_of_ble_eq_true rfl⟩) (fun r9 er9 => ?_)
    refine lv_if_ne (tgt := 18) hx hb dX10_hides_12 (by decide) (fun c12 => ?_) (fun c12 => ?_)
    · refine lv_aload_n hx hb dX10_hides_18 rfl (lv_at hl 0 rfl) ?_
      refine lv_iload_n hx hb dX10_hides_19 rfl (lv_at hl 1 rfl) ?_
      refine lv_iconst (v := 0) hx hb dX10_hides_20 (by decide) ?_
      refine k_Sq (va_runV (As := [.int (p1), .int (0)]) (rest := []) ⟨hx, hb, hml, hown, hts⟩ (c_X10_dialAt l E M S p1 0 hT) (cwV 2 hts gX10_hides_X10_dialAt rfl rfl rfl (by decide +kernel) ⟨Nat.le_of_ble_eq_true rfl, Nat.le_of_ble_eq_true rfl⟩) (gP.V (ci := 9) (q := (RX10, TX10, 12)) (q0 := 11) hE hS hW rfl rfl) rfl rfl hl.1 rfl (lv_room (Nat.le_of_ble_eq_true rfl)) dX10_hides_21 ⟨Nat.le_of_ble_eq_true rfl, Nat.le_of_ble_eq_true rfl⟩) (fun r21 er21 => ?_)
      rcases r21 with _ | a21
      · refine lv_astoreN (lv' := [(4, .null), (0, .ref (eC E 0)), (1, .int (p1)), (2, .int (p2)), (3, .int (p3))]) hx hb dX10_hides_24 hl (by decide) rfl (fun ls hl => ?_)
        refine lv_aloadN hx hb dX10_hides_26 (lv_at hl 0 rfl) ?_
        refine lv_ifnonnullN hx hb dX10_hides_28 ?_
        refine lv_ldc hx hb (v := (-2000000002)) hown (hts (.constant RX10 176 (-2000000002)) (by decide +kernel)) dX10_hides_31 ?_
        exact W.iret (v := (-2000000002)) hx hb hr (fun t ht _ => ⟨⟨(-2000000002), S, rfl, by subst er9; subst er1; first | (simp only [q_X10_hides, if_neg c4, if_neg c12, ← er21]; done) | contradiction, by dsimp only; rw [ht]; exact hW⟩, hS.F ht⟩) hS.2.2 dX10_hides_33
      · have hL21 := (da_of hT er21).1
        have hK21 := (da_of hT er21).2
        refine lv_astore (lv' := [(4, .ref (a21)), (0, .ref (eC E 0)), (1, .int (p1)), (2, .int (p2)), (3, .int (p3))]) hx hb dX10_hides_24 hl (by decide) rfl (fun ls hl => ?_)
        refine lv_aload hx hb dX10_hides_26 (lv_at hl 0 rfl) ?_
        refine lv_ifnonnull (tgt := 34) hx hb dX10_hides_28 (by decide) ?_
        refine lv_aload_n hx hb dX10_hides_34 rfl (lv_at hl 1 rfl) ?_
        refine lv_aload hx hb dX10_hides_35 (lv_at hl 0 rfl) ?_
        refine lv_iload_n hx hb dX10_hides_37 rfl (lv_at hl 3 rfl) ?_
        refine lv_iload_n hx hb dX10_hides_38 rfl (lv_at hl 4 rfl) ?_
        refine va_calli (va_runV (As := [.ref (a21), .int (p2), .int (p3)]) (rest := []) ⟨hx, hb, hml, hown, hts⟩ (c_X10_stateOf l E M S a21 p2 p3 hL21 hK21 hT hH hkn0 hkn) (cwV 3 hts gX10_hides_X10_stateOf rfl rfl rfl (by decide +kernel) ⟨Nat.le_of_ble_eq_true rfl, Nat.le_of_ble_eq_true rfl⟩) (gP.V (ci := 9) (q := (RX10, TX10, 12)) (q0 := 11) hE hS hW rfl rfl) rfl rfl hl.1 rfl (lv_room (Nat.le_of_ble_eq_true rfl)) dX10_hides_39 ⟨Nat.le_of_ble_eq_true rfl, Nat.le_of_ble_eq_true rfl⟩) hS (fun _ _ h => h) (fun _ h => h) (fun r39 S39 t H locs ht hvm hw hB hz1 hk1 hS => ?_)
        obtain ⟨er39, eS39⟩ := prj hw
        clear hw
        have hW : gW E M S39 H := by rw [← ht]; exact hB
        refine lv_iconst (v := 3) hx hb dX10_hides_42 (by decide) ?_
        refine lv_icmp_ne (tgt := 56) hx hb dX10_hides_43 (by decide) (fun c43 => ?_) (fun c43 => ?_)
        · refine lv_ldc hx hb (v := (-2000000005)) hown (hts (.constant RX10 235 (-2000000005)) (by decide +kernel)) dX10_hides_56 ?_
          exact W.iret (v := (-2000000005)) hx hb hr (fun t ht _ => ⟨⟨(-2000000005), S39, rfl, by subst er9; subst er1; first | (simp only [q_X10_hides, if_neg c4, if_neg c12, if_neg c43, ← er21, ← er39, ← eS39]; done) | contradiction, by dsimp only; rw [ht]; exact hW⟩, hS.F ht⟩) hS.2.2 dX10_hides_58
        · refine lv_aload_n hx hb dX10_hides_46 rfl (lv_at hl 1 rfl) ?_
          refine va_get (D := eD E) (cl := vwCl) (tys := eT E) (ci := 9) (C := RX10) (T := TX10) (N := 12) (v := .ref (eC E 7)) hx hb hts hinX10 hown hE.1 hW.1 11 rfl rfl 3 (by decide) (hts (.fieldLink RX10 32 "DialGarden" "shade" "LDialGarden$Shade;") (by decide +kernel)) (fun _ h9 => h9) rfl dX10_hides_47 ?_
          refine va_getN (D := eD E) (cl := vwCl) (tys := eT E) (ci := 6) (C := RX6) (T := TX6) (N := 13) (v := .int (S39.1 7 11)) hx hb hts hinX6 hown hE.1 hW.1 18 rfl rfl 10 (by decide) (va_Nw.use rfl (hE.2.2.1 (.fieldLinkNest "DialGarden" 232 "DialGarden$Shade" "hider" "I" "DialGarden") (by decide +kernel))) (fun _ h9 => h9) rfl dX10_hides_50 ?_
          refine lv_goto (tgt := 58) hx hb dX10_hides_53 (by decide) ?_
          exact W.iret (v := S39.1 7 11) hx hb hr (fun t ht _ => ⟨⟨S39.1 7 11, S39, rfl, by subst er9; subst er1; first | (simp only [q_X10_hides, if_neg c4, if_neg c12, if_pos c43, ← er21, ← er39, ← eS39]; done) | contradiction, by dsimp only; rw [ht]; exact hW⟩, hS.F ht⟩) hS.2.2 dX10_hides_58
    · refine lv_ldc hx hb (v := (-2000000001)) hown (hts (.constant RX10 86 (-2000000001)) (by decide +kernel)) dX10_hides_15 ?_
      exact W.iret (v := (-2000000001)) hx hb hr (fun t ht _ => ⟨⟨(-2000000001), S, rfl, by subst er9; subst er1; first | (simp only [q_X10_hides, if_neg c4, if_pos c12]; done) | contradiction, by dsimp only; rw [ht]; exact hW⟩, hS.F ht⟩) hS.2.2 dX10_hides_17
