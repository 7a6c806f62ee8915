def q_X10_stretch (S : gSc) (p1 : Int32) (p2 : Int32) (p3 : Int32) (p4 : Int32) : Int32 × gSc := (let r1 := q_X10_isPlace p1; (if r1 = 0 then ((-2000000001), S) else (let r8 := q_X10_isDay p2; (if r8 = 0 then ((-2000000001), S) else (if p3 < 0 then ((-2000000001), S) else (let r23 := q_X10_within (p4.toInt64) 0 1; (if r23 = 0 then ((-2000000001), S) else (match q_X10_dialAt S p1 0 with | none => ((-2000000002), S) | some a35 => (let r53 := (q_X10_followStretches S a35 p2 p3).1; let S53 := (q_X10_followStretches S a35 p2 p3).2; (if p4 = 0 then (let r66 := q_X4_leastOrNone_26 S53; (r66, S53)) else (let r76 := q_X4_greatestOrNone_26 S53; (r76, S53))))))))))))
set_option maxHeartbeats 4000000 in
set_option maxRecDepth 100000 in
theorem c_X10_stretch (l : Launch) (E : gEE) (M : gSm) (S : gSc) (p1 : Int32) (p2 : Int32) (p3 : Int32) (p4 : Int32) (hT : okR S 3 40) (hH : okH S) (hkn0 : 0 ≤ (S.1 1 1).toInt) (hkn : (S.1 1 1).toInt ≤ 366) : Met l yX10_stretch wsX10_stretch ({ frames := 6, cells := 0, slots := 0, locals := 141 }) (va_Pc [.ref (eC E 0), .int (p1), .int (p2), .int (p3), .int (p4)] (gP E M S)) (va_Qi (fun r (u : gSc) => (r, u) = q_X10_stretch S p1 p2 p3 p4) (fun u t => gW E M u t.heap) (eA E)) 0 0 (eA E) := by
  refine Met.ofW (cc := cX10_stretch) (maxL := 6) (ret := (some .int)) (by decide) rfl ?_
  intro p e s m args below meth c s₁ B hml hv
  obtain ⟨rfl, hE, hW⟩ := hv
  have hx := B.exec
  have hb := B.bytes
  have hr := B.returns
  have hts := atoms_spec (ws := wsX10_stretch) B.pre
  have hown : s.vm.findClass RX10 = some m.cls := findClass_of_methodNamed B.named
  have hlocks := B.notSynchronized
  have hinX10 : ∀ w ∈ wsX100, w ∈ wsX10_stretch := by decide +kernel
  have hS : va_S (eA E) s.heap s.heap [] := va_S.rf
  have hl := lv_entry ([.ref (eC E 0), .int (p1), .int (p2), .int (p3), .int (p4)]) (n := 6) (Nat.le_of_ble_eq_true rfl)
  rw [lg_entry_eq]
  generalize (lg_sl ([.ref (eC E 0), .int (p1), .int (p2), .int (p3), .int (p4)]) ++ List.replicate (6 - (lg_sl ([.ref (eC E 0), .int (p1), .int (p2), .int (p3), .int (p4)])).length) Slot.unset).toArray = ls at hl ⊢
  have hl : lv_has ls 6 [(0, .ref (eC E 0)), (1, .int (p1)), (2, .int (p2)), (3, .int (p3)), (4, .int (p4))] := hl
  have hS : ∃ (H : Heap) (locs : List Loc), H = s.heap ∧ locs = [] ∧ gW E M S H ∧ va_S (eA E) s.heap H locs := ⟨_, _, rfl, rfl, hW, hS⟩
  clear hW
  obtain ⟨H, locs, eH, el, hW, hS⟩ := hS
  rw [← eH, ← el]
  clear eH el
  refine lv_iload_n hx hb dX10_stretch_0 rfl (lv_at hl 1 rfl) ?_
  refine k_Si (va_runS (As := [.int (p1)]) (rest := []) ⟨hx, hb, hml, hown, hts⟩ (c_X10_isPlace l p1) (va_cwS 1 hts gX10_stretch_X10_isPlace rfl rfl rfl (by decide +kernel) ⟨Nat.le_of_ble_eq_true rfl, Nat.le_of_ble_eq_true rfl⟩) gP0 rfl rfl hl.1 rfl (lv_room (Nat.le_of_ble_eq_true rfl)) dX10_stretch_1 ⟨Nat.le_of_ble_eq_true rfl, Nat.le_of_ble_eq_true rfl⟩) (fun r1 er1 => ?_)
  refine lv_if_eq (tgt := 29) hx hb dX10_stretch_4 (by decide) (fun c4 => ?_) (fun c4 => ?_)
  · refine lv_ldc hx hb (v := (-2000000001)) hown (hts (.constant RX10 86 (-2000000001)) (by decide +kernel)) dX10_stretch_29 ?_
    exact W.iret (v := (-2000000001)) hx hb hr (fun t ht _ => ⟨⟨(-2000000001), S, rfl, by subst er1; first | (simp only [q_X10_stretch, if_pos c4]; done) | contradiction, by dsimp only; rw [ht]; exact hW⟩, hS.F ht⟩) hS.2.2 dX10_stretch_31
  · refine lv_iload_n hx hb dX10_stretch_7 rfl (lv_at hl 2 rfl) ?_
    refine k_Si (va_runS (As := [.int (p2)]) (rest := []) ⟨hx, hb, hml, hown, hts⟩ (c_X10_isDay l p2) (va_cwS 1 hts gX10_stretch_X10_isDay rfl rfl rfl (by decide +kernel) ⟨Nat.le_of_ble_eq_true rfl, Nat.le_of_ble_eq_true rfl⟩) gP0 rfl rfl hl.1 rfl (lv_room (Nat.le_of_ble_eq_true rfl)) dX10_stretch_8 ⟨Nat.le_of_ble_eq_true rfl, Nat.le_of_ble_eq_true rfl⟩) (fun r8 er8 => ?_)
    refine lv_if_eq (tgt := 29) hx hb dX10_stretch_11 (by decide) (fun c11 => ?_) (fun c11 => ?_)
    · refine lv_ldc hx hb (v := (-2000000001)) hown (hts (.constant RX10 86 (-2000000001)) (by decide +kernel)) dX10_stretch_29 ?_
      exact W.iret (v := (-2000000001)) hx hb hr (fun t ht _ => ⟨⟨(-2000000001), S, rfl, by subst er8; subst er1; first | (simp only [q_X10_stretch, if_neg c4, if_pos c11]; done) | contradiction, by dsimp only; rw [ht]; exact hW⟩, hS.F ht⟩) hS.2.2 dX10_stretch_31
    · refine lv_iload_n hx hb dX10_stretch_14 rfl (lv_at hl 3 rfl) ?_
      refine lv_if_lt (tgt := 29) hx hb dX10_stretch_15 (by decide) (fun c15 => ?_) (fun c15 => ?_)
      · refine lv_ldc hx hb (v := (-2000000001)) hown (hts (.constant RX10 86 (-2000000001)) (by decide +kernel)) dX10_stretch_29 ?_
        exact W.iret (v := (-2000000001)) hx hb hr (fun t ht _ => ⟨⟨(-2000000001), S, rfl, by subst er8; subst er1; first | (simp only [q_X10_stretch, if_neg c4, if_neg c11, if_pos c15]; done) | contradiction, by dsimp only; rw [ht]; exact hW⟩, hS.F ht⟩) hS.2.2 dX10_stretch_31
      · refine lv_iload hx hb dX10_stretch_18 (lv_at hl 4 rfl) ?_
        refine lv_i2l (v := p4.toInt64) hx hb dX10_stretch_20 rfl ?_
        refine lv_lconst (v := 0) hx hb dX10_stretch_21 (by decide) ?_
        refine lv_lconst (v := 1) hx hb dX10_stretch_22 (by decide) ?_
        refine k_Si (va_runS (As := [.long (p4.toInt64), .long (0), .long (1)]) (rest := []) ⟨hx, hb, hml, hown, hts⟩ (c_X10_within l (p4.toInt64) 0 1) (va_cwS 3 hts gX10_stretch_X10_within rfl rfl rfl (by decide +kernel) ⟨Nat.le_of_ble_eq_true rfl, Nat.le_of_ble_eq_true rfl⟩) gP0 rfl rfl hl.1 rfl (lv_room (Nat.le_of_ble_eq_true rfl)) dX10_stretch_23 ⟨Nat.le_of_ble_eq_true rfl, Nat.le_of_ble_eq_true rfl⟩) (fun r23 er23 => ?_)
        refine lv_if_ne (tgt := 32) hx hb dX10_stretch_26 (by decide) (fun c26 => ?_) (fun c26 => ?_)
        · refine lv_aload_n hx hb dX10_stretch_32 rfl (lv_at hl 0 rfl) ?_
          refine lv_iload_n hx hb dX10_stretch_33 rfl (lv_at hl 1 rfl) ?_
          refine lv_iconst (v := 0) hx hb dX10_stretch_34 (by decide) ?_
          refine k_Sq (va_runV (As := [.int (p1), .int (0)]) (rest := []) ⟨hx, hb, hml, hown, hts⟩ (c_X10_dialAt l E M S p1 0 hT) (cwV 2 hts gX10_stretch_X10_dialAt rfl rfl rfl (by decide +kernel) ⟨Nat.le_of_ble_eq_true rfl, Nat.le_of_ble_eq_true rfl⟩) (gP.V (ci := 9) (q := (RX10, TX10, 12)) (q0 := 11) hE hS hW rfl rfl) rfl rfl hl.1 rfl (lv_room (Nat.le_of_ble_eq_true rfl)) dX10_stretch_35 ⟨Nat.le_of_ble_eq_true rfl, Nat.le_of_ble_eq_true rfl⟩) (fun r35 er35 => ?_)
          rcases r35 with _ | a35
          · refine lv_astoreN (lv' := [(5, .null), (0, .ref (eC E 0)), (1, .int (p1)), (2, .int (p2)), (3, .int (p3)), (4, .int (p4))]) hx hb dX10_stretch_38 hl (by decide) rfl (fun ls hl => ?_)
            refine lv_aloadN hx hb dX10_stretch_40 (lv_at hl 0 rfl) ?_
            refine lv_ifnonnullN hx hb dX10_stretch_42 ?_
            refine lv_ldc hx hb (v := (-2000000002)) hown (hts (.constant RX10 176 (-2000000002)) (by decide +kernel)) dX10_stretch_45 ?_
            exact W.iret (v := (-2000000002)) hx hb hr (fun t ht _ => ⟨⟨(-2000000002), S, rfl, by subst er23; subst er8; subst er1; first | (simp only [q_X10_stretch, if_neg c4, if_neg c11, if_neg c15, if_neg c26, ← er35]; done) | contradiction, by dsimp only; rw [ht]; exact hW⟩, hS.F ht⟩) hS.2.2 dX10_stretch_47
          · have hL35 := (da_of hT er35).1
            have hK35 := (da_of hT er35).2
            refine lv_astore (lv' := [(5, .ref (a35)), (0, .ref (eC E 0)), (1, .int (p1)), (2, .int (p2)), (3, .int (p3)), (4, .int (p4))]) hx hb dX10_stretch_38 hl (by decide) rfl (fun ls hl => ?_)
            refine lv_aload hx hb dX10_stretch_40 (lv_at hl 0 rfl) ?_
            refine lv_ifnonnull (tgt := 48) hx hb dX10_stretch_42 (by decide) ?_
            refine lv_aload_n hx hb dX10_stretch_48 rfl (lv_at hl 1 rfl) ?_
            refine lv_aload hx hb dX10_stretch_49 (lv_at hl 0 rfl) ?_
            refine lv_iload_n hx hb dX10_stretch_51 rfl (lv_at hl 3 rfl) ?_
            refine lv_iload_n hx hb dX10_stretch_52 rfl (lv_at hl 4 rfl) ?_
            refine va_calli (va_runV (As := [.ref (a35), .int (p2), .int (p3)]) (rest := []) ⟨hx, hb, hml, hown, hts⟩ (c_X10_followStretches l E M S a35 p2 p3 hL35 hK35 hT hH hkn0 hkn) (cwV 3 hts gX10_stretch_X10_followStretches rfl rfl rfl (by decide +kernel) ⟨Nat.le_of_ble_eq_true rfl, Nat.le_of_ble_eq_true rfl⟩) (gP.V (ci := 9) (q := (RX10, TX10, 12)) (q0 := 11) hE hS hW rfl rfl) rfl rfl hl.1 rfl (lv_room (Nat.le_of_ble_eq_true rfl)) dX10_stretch_53 ⟨Nat.le_of_ble_eq_true rfl, Nat.le_of_ble_eq_true rfl⟩) hS (fun _ _ h => h) (fun _ h => h) (fun r53 S53 t H locs ht hvm hw hB hzz hkk hS => ?_)
            obtain ⟨er53, eS53⟩ := prj hw
            clear hw
            have hW : gW E M S53 H := by rw [← ht]; exact hB
            refine lv_pop hx hb dX10_stretch_56 rfl ?_
            refine lv_iload hx hb dX10_stretch_57 (lv_at hl 5 rfl) ?_
            refine lv_if_ne (tgt := 72) hx hb dX10_stretch_59 (by decide) (fun c59 => ?_) (fun c59 => ?_)
            · refine lv_aload_n hx hb dX10_stretch_72 rfl (lv_at hl 1 rfl) ?_
              refine va_get (D := eD E) (cl := vwCl) (tys := eT E) (ci := 9) (C := RX10) (T := TX10) (N := 12) (v := .ref (eC E 26)) hx hb hts hinX10 hown hE.1 hW.1 11 rfl rfl 11 (by decide) (hts (.fieldLink RX10 71 "DialGarden" "minutesOfStretch" "LDialGarden$Range;") (by decide +kernel)) (fun _ h9 => h9) rfl dX10_stretch_73 ?_
              refine k_Si (va_runV (As := []) (rest := []) ⟨hx, hb, hml, hown, hts⟩ (c_X4_greatestOrNone_26 l E M S53) (cwV 0 hts gX10_stretch_X4_greatestOrNone rfl rfl rfl (by decide +kernel) ⟨Nat.le_of_ble_eq_true rfl, Nat.le_of_ble_eq_true rfl⟩) (gP.V (ci := 4) (q := (RX4, TX4, 3)) (q0 := 37) hE hS hW rfl rfl) rfl rfl hl.1 rfl (lv_room (Nat.le_of_ble_eq_true rfl)) dX10_stretch_76 ⟨Nat.le_of_ble_eq_true rfl, Nat.le_of_ble_eq_true rfl⟩) (fun r76 er76 => ?_)
              exact W.iret (v := r76) hx hb hr (fun t ht _ => ⟨⟨r76, S53, rfl, by subst er76; subst er23; subst er8; subst er1; first | (simp only [q_X10_stretch, if_neg c4, if_neg c11, if_neg c15, if_neg c26, if_neg c59, ← er35, ← er53, ← eS53]; done) | contradiction, by dsimp only; rw [ht]; exact hW⟩, hS.F ht⟩) hS.2.2 dX10_stretch_79
            · refine lv_aload_n hx hb dX10_stretch_62 rfl (lv_at hl 1 rfl) ?_
              refine va_get (D := eD E) (cl := vwCl) (tys := eT E) (ci := 9) (C := RX10) (T := TX10) (N := 12) (v := .ref (eC E 26)) hx hb hts hinX10 hown hE.1 hW.1 11 rfl rfl 11 (by decide) (hts (.fieldLink RX10 71 "DialGarden" "minutesOfStretch" "LDialGarden$Range;") (by decide +kernel)) (fun _ h9 => h9) rfl dX10_stretch_63 ?_
              refine k_Si (va_runV (As := []) (rest := []) ⟨hx, hb, hml, hown, hts⟩ (c_X4_leastOrNone_26 l E M S53) (cwV 0 hts gX10_stretch_X4_leastOrNone rfl rfl rfl (by decide +kernel) ⟨Nat.le_of_ble_eq_true rfl, Nat.le_of_ble_eq_true rfl⟩) (gP.V (ci := 4) (q := (RX4, TX4, 3)) (q0 := 37) hE hS hW rfl rfl) rfl rfl hl.1 rfl (lv_room (Nat.le_of_ble_eq_true rfl)) dX10_stretch_66 ⟨Nat.le_of_ble_eq_true rfl, Nat.le_of_ble_eq_true rfl⟩) (fun r66 er66 => ?_)
              refine lv_goto (tgt := 79) hx hb dX10_stretch_69 (by decide) ?_
              exact W.iret (v := r66) hx hb hr (fun t ht _ => ⟨⟨r66, S53, rfl, by subst er66; subst er23; subst er8; subst er1; first | (simp only [q_X10_stretch, if_neg c4, if_neg c11, if_neg c15, if_neg c26, if_pos c59, ← er35, ← er53, ← eS53]; done) | contradiction, by dsimp only; rw [ht]; exact hW⟩, hS.F ht⟩) hS.2.2 dX10_stretch_79
        · refine lv_ldc hx hb (v := (-2000000001)) hown (hts (.constant RX10 86 (-2000000001)) (by decide +kernel)) dX10_stretch_29 ?_
          exact W.iret (v := (-2000000001)) hx hb hr (fun t ht _ => ⟨⟨(-2000000001), S, rfl, by subst er23; subst er8; subst er1; first | (simp only [q_X10_stretch, if_neg c4, if_neg c11, if_neg c15, if_pos c26]; done) | contradiction, by dsimp only; rw [ht]; exact hW⟩, hS.F ht⟩) hS.2.2 dX10_stretch_31
