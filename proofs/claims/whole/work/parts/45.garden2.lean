def q_X10_move (S : gSc) (p1 : Int32) (p2 : Int32) (p3 : Int32) (q : Nat) : Int32 × gSc := (let r1 := q_X10_isPlace p1; (if r1 = 0 then ((-2000000001), S) else (let r9 := q_X10_isSpot p2 p3; (if r9 = 0 then ((-2000000001), S) else (match q_X10_dialAt S p1 0 with | none => ((-2000000002), S) | some a21 => (let S40 := (q_X1_withSpot S a21 p2 p3 q).2; (let S43 := q_X10_put S40 p1 (some q); (0, S43))))))))
set_option maxHeartbeats 4000000 in
set_option maxRecDepth 100000 in
theorem c_X10_move (l : Launch) (E : gEE) (M : gSm) (S : gSc) (p1 : Int32) (p2 : Int32) (p3 : Int32) (hT : okR S 3 40) : Met l yX10_move wsX10_move ({ frames := 4, cells := 1, slots := 7, locals := 90 }) (va_Pc [.ref (eC E 0), .int (p1), .int (p2), .int (p3)] (gP E M S)) (va_Qi (fun r (u : gSc) => ∃ q : Nat, q ∉ S.2.2.1 ∧ (r, u) = q_X10_move S p1 p2 p3 q) (fun u t => gW E M u t.heap) (eA E)) 1 7 (eA E) := by
  refine Met.ofW (cc := cX10_move) (maxL := 5) (ret := (some .int)) (by decide) rfl ?_
  intro p e s m args below meth c s₁ B hml hv
  obtain ⟨rfl, hE, hW⟩ := hv
  have hx := B.exec
  have hb := B.bytes
  have hr := B.returns
  have hts := atoms_spec (ws := wsX10_move) B.pre
  have hown : s.vm.findClass RX10 = some m.cls := findClass_of_methodNamed B.named
  have hlocks := B.notSynchronized
  obtain ⟨q0, hf0⟩ := fr_ex S.2.2.1
  have hS : va_S (eA E) s.heap s.heap [] := va_S.rf
  have hl := lv_entry ([.ref (eC E 0), .int (p1), .int (p2), .int (p3)]) (n := 5) (Nat.le_of_ble_eq_true rfl)
  rw [lg_entry_eq]
  generalize (lg_sl ([.ref (eC E 0), .int (p1), .int (p2), .int (p3)]) ++ List.replicate (5 - (lg_sl ([.ref (eC E 0), .int (p1), .int (p2), .int (p3)])).length) Slot.unset).toArray = ls at hl ⊢
  have hl : lv_has ls 5 [(0, .ref (eC E 0)), (1, .int (p1)), (2, .int (p2)), (3, .int (p3))] := hl
  have hS : ∃ (H : Heap) (locs : List Loc), H = s.heap ∧ locs = [] ∧ gW E M S H ∧ va_S (eA E) s.heap H locs := ⟨_, _, rfl, rfl, hW, hS⟩
  clear hW
  obtain ⟨H, locs, eH, el, hW, hS⟩ := hS
  rw [← eH, ← el]
  clear eH el
  refine lv_iload_n hx hb dX10_move_0 rfl (lv_at hl 1 rfl) ?_
  refine k_Si (va_runS (As := [.int (p1)]) (rest := []) ⟨hx, hb, hml, hown, hts⟩ (c_X10_isPlace l p1) (va_cwS 1 hts gX10_move_X10_isPlace rfl rfl rfl (by decide +kernel) ⟨Nat.le_of_ble_eq_true rfl, Nat.le_of_ble_eq_true rfl⟩) gP0 rfl rfl hl.1 rfl (lv_room (Nat.le_of_ble_eq_true rfl)) dX10_move_1 ⟨Nat.le_of_ble_eq_true rfl, Nat.le_of_ble_eq_true rfl⟩) (fun r1 er1 => ?_)
  refine lv_if_eq (tgt := 15) hx hb dX10_move_4 (by decide) (fun c4 => ?_) (fun c4 => ?_)
  · refine lv_ldc hx hb (v := (-2000000001)) hown (hts (.constant RX10 86 (-2000000001)) (by decide +kernel)) dX10_move_15 ?_
    refine W.widen (k := 1) (n := 7) (by decide) (by decide) ?_
    exact W.iret (v := (-2000000001)) hx hb hr (fun t ht _ => ⟨⟨(-2000000001), S, rfl, ⟨q0, hf0, by subst er1; first | (simp only [q_X10_move, if_pos c4]; done) | contradiction⟩, by dsimp only; rw [ht]; exact hW⟩, hS.F ht⟩) hS.2.2 dX10_move_17
  · refine lv_iload_n hx hb dX10_move_7 rfl (lv_at hl 2 rfl) ?_
    refine lv_iload_n hx hb dX10_move_8 rfl (lv_at hl 3 rfl) ?_
    refine k_Si (va_runS (As := [.int (p2), .int (p3)]) (rest := []) ⟨hx, hb, hml, hown, hts⟩ (c_X10_isSpot l p2 p3) (va_cwS 2 hts gX10_move_X10_isSpot rfl rfl rfl (by decide +kernel) ⟨Nat.le_of_ble_eq_true rfl, Nat.le_of_ble_eq_true rfl⟩) gP0 rfl rfl hl.1 rfl (lv_room (Nat.le_of_ble_eq_true rfl)) dX10_move_9 ⟨Nat.le_of_ble_eq_true rfl, Nat.le_of_ble_eq_true rfl⟩) (fun r9 er9 => ?_)
    refine lv_if_ne (tgt := 18) hx hb dX10_move_12 (by decide) (fun c12 => ?_) (fun c12 => ?_)
    · refine lv_aload_n hx hb dX10_move_18 rfl (lv_at hl 0 rfl) ?_
      refine lv_iload_n hx hb dX10_move_19 rfl (lv_at hl 1 rfl) ?_
      refine lv_iconst (v := 0) hx hb dX10_move_20 (by decide) ?_
      refine k_Sq (va_runV (As := [.int (p1), .int (0)]) (rest := []) ⟨hx, hb, hml, hown, hts⟩ (c_X10_dialAt l E M S p1 0 hT) (cwV 2 hts gX10_move_X10_dialAt rfl rfl rfl (by decide +kernel) ⟨Nat.le_of_ble_eq_true rfl, Nat.le_of_ble_eq_true rfl⟩) (gP.V (ci := 9) (q := (RX10, TX10, 12)) (q0 := 11) hE hS hW rfl rfl) rfl rfl hl.1 rfl (lv_room (Nat.le_of_ble_eq_true rfl)) dX10_move_21 ⟨Nat.le_of_ble_eq_true rfl, Nat.le_of_ble_eq_true rfl⟩) (fun r21 er21 => ?_)
      rcases r21 with _ | a21
      · refine lv_astoreN (lv' := [(4, .null), (0, .ref (eC E 0)), (1, .int (p1)), (2, .int (p2)), (3, .int (p3))]) hx hb dX10_move_24 hl (by decide) rfl (fun ls hl => ?_)
        refine lv_aloadN hx hb dX10_move_26 (lv_at hl 0 rfl) ?_
        refine lv_ifnonnullN hx hb dX10_move_28 ?_
        refine lv_ldc hx hb (v := (-2000000002)) hown (hts (.constant RX10 176 (-2000000002)) (by decide +kernel)) dX10_move_31 ?_
        refine W.widen (k := 1) (n := 7) (by decide) (by decide) ?_
        exact W.iret (v := (-2000000002)) hx hb hr (fun t ht _ => ⟨⟨(-2000000002), S, rfl, ⟨q0, hf0, by subst er9; subst er1; first | (simp only [q_X10_move, if_neg c4, if_neg c12, ← er21]; done) | contradiction⟩, by dsimp only; rw [ht]; exact hW⟩, hS.F ht⟩) hS.2.2 dX10_move_33
      · have hL21 := (da_of hT er21).1
        have hK21 := (da_of hT er21).2
        refine lv_astore (lv' := [(4, .ref (a21)), (0, .ref (eC E 0)), (1, .int (p1)), (2, .int (p2)), (3, .int (p3))]) hx hb dX10_move_24 hl (by decide) rfl (fun ls hl => ?_)
        refine lv_aload hx hb dX10_move_26 (lv_at hl 0 rfl) ?_
        refine lv_ifnonnull (tgt := 34) hx hb dX10_move_28 (by decide) ?_
        refine lv_aload_n hx hb dX10_move_34 rfl (lv_at hl 1 rfl) ?_
        refine lv_iload_n hx hb dX10_move_35 rfl (lv_at hl 2 rfl) ?_
        refine lv_aload hx hb dX10_move_36 (lv_at hl 0 rfl) ?_
        refine lv_iload_n hx hb dX10_move_38 rfl (lv_at hl 3 rfl) ?_
        refine lv_iload_n hx hb dX10_move_39 rfl (lv_at hl 4 rfl) ?_
        obtain ⟨k40, hk40⟩ := wJ_d E M (S := S) hL21 hK21
        refine va_callq (va_runV (As := [.int (p2), .int (p3)]) (rest := [.int (p1), .ref (eC E 0)]) ⟨hx, hb, hml, hown, hts⟩ (c_X1_withSpot l E M S a21 p2 p3 hL21 hK21) (cwV 2 hts gX10_move_X1_withSpot rfl rfl rfl (by decide +kernel) ⟨Nat.le_of_ble_eq_true rfl, Nat.le_of_ble_eq_true rfl⟩) (gP.V (ci := 1) (q := (RX1, TX1, 7)) hE hS hW rfl hk40) rfl rfl hl.1 rfl (lv_room (Nat.le_of_ble_eq_true rfl)) dX10_move_40 ⟨Nat.le_of_ble_eq_true rfl, Nat.le_of_ble_eq_true rfl⟩) hS (fun _ _ h => h) (fun _ h => h) (fun r40 S40 t H locs ht hvm hw hB hz1 hk1 hS => ?_)
        obtain ⟨q40, hf40, hw⟩ := hw
        obtain ⟨er40, eS40⟩ := prj hw
        clear hw
        refine W.widen (k := 1) (n := 7) (by decide) (by decide) ?_
        have hW : gW E M S40 H := by rw [← ht]; exact hB
        have er402 : r40 = some q40 := er40
        subst er402
        have hL40 : q40 ∈ S40.2.2.1 := by rw [eS40]; exact List.mem_append_right _ (List.mem_singleton.mpr rfl)
        have hK40 : S40.2.2.2.1 q40 = 1 := by rw [eS40]; exact va_up_s
        refine va_callv (va_runV (As := [.int (p1), .ref (q40)]) (rest := []) ⟨hx, hb, hml, hown, hts⟩ (c_X10_put l E M S40 p1 (some q40) (by intro b h; cases h; exact hL40) (isPc_of er1 c4) (okR_L hT (by rw [eS40]; rfl) (by rw [eS40]; exact fun _ h => List.mem_append_left _ h))) (cwV 2 hts gX10_move_X10_put rfl rfl rfl (by decide +kernel) ⟨Nat.le_of_ble_eq_true rfl, Nat.le_of_ble_eq_true rfl⟩) (gP.V (ci := 9) (q := (RX10, TX10, 12)) (q0 := 11) hE hS hW rfl rfl) rfl rfl hl.1 rfl (lv_room (Nat.le_of_ble_eq_true rfl)) dX10_move_43 ⟨Nat.le_of_ble_eq_true rfl, Nat.le_of_ble_eq_true rfl⟩) hS (fun _ _ h => h) (fun _ h => h) (fun S43 t H locs ht hvm hw hB hz1 hk1 hS => ?_)
        have eS43 : S43 = q_X10_put S40 p1 (some q40) := hw
        clear hw
        have hW : gW E M S43 H := by rw [← ht]; exact hB
        have hpS43 : S43.2.2 = S40.2.2 := by rw [eS43]; exact (qp_X10_put _ _ _)
        refine lv_iconst (v := 0) hx hb dX10_move_46 (by decide) ?_
        exact W.iret (v := 0) hx hb hr (fun t ht _ => ⟨⟨0, S43, rfl, ⟨q40, hf40, by subst eS43; subst eS40; subst er9; subst er1; first | (simp only [q_X10_move, if_neg c4, if_neg c12, ← er21]; done) | contradiction⟩, by dsimp only; rw [ht]; exact hW⟩, hS.F ht⟩) hS.2.2 dX10_move_47
    · refine lv_ldc hx hb (v := (-2000000001)) hown (hts (.constant RX10 86 (-2000000001)) (by decide +kernel)) dX10_move_15 ?_
      refine W.widen (k := 1) (n := 7) (by decide) (by decide) ?_
      exact W.iret (v := (-2000000001)) hx hb hr (fun t ht _ => ⟨⟨(-2000000001), S, rfl, ⟨q0, hf0, by subst er9; subst er1; first | (simp only [q_X10_move, if_neg c4, if_pos c12]; done) | contradiction⟩, by dsimp only; rw [ht]; exact hW⟩, hS.F ht⟩) hS.2.2 dX10_move_17

def q_X10_face (S : gSc) (p1 : Int32) (p2 : Int32) (q : Nat) : Int32 × gSc := (let r1 := q_X10_isPlace p1; (if r1 = 0 then ((-2000000001), S) else (let r13 := q_X10_within (p2.toInt64) 0 65535; (if r13 = 0 then ((-2000000001), S) else (match q_X10_dialAt S p1 1 with | none => ((-2000000002), S) | some a25 => (let S40 := (q_X1_withFacing S a25 p2 q).2; (let S43 := q_X10_put S40 p1 (some q); (S43.2.2.2.2 a25 4, S43))))))))
set_option maxHeartbeats 4000000 in
set_option maxRecDepth 100000 in
theorem c_X10_face (l : Launch) (E : gEE) (M : gSm) (S : gSc) (p1 : Int32) (p2 : Int32) (hT : okR S 3 40) : Met l yX10_face wsX10_face ({ frames := 4, cells := 1, slots := 7, locals := 90 }) (va_Pc [.ref (eC E 0), .int (p1), .int (p2)] (gP E M S)) (va_Qi (fun r (u : gSc) => ∃ q : Nat, q ∉ S.2.2.1 ∧ (r, u) = q_X10_face S p1 p2 q) (fun u t => gW E M u t.heap) (eA E)) 1 7 (eA E) := by
  refine Met.ofW (cc := cX10_face) (maxL := 4) (ret := (some .int)) (by decide) rfl ?_
  intro p e s m args below meth c s₁ B hml hv
  obtain ⟨rfl, hE, hW⟩ := hv
  have hx := B.exec
  have hb := B.bytes
  have hr := B.returns
  have hts := atoms_spec (ws := wsX10_face) B.pre
  have hown : s.vm.findClass RX10 = some m.cls := findClass_of_methodNamed B.named
  have hlocks := B.notSynchronized
  obtain ⟨q0, hf0⟩ := fr_ex S.2.2.1
  have hinX1 : ∀ w ∈ wsX10, w ∈ wsX10_face := by decide +kernel
  have hS : va_S (eA E) s.heap s.heap [] := va_S.rf
  have hl := lv_entry ([.ref (eC E 0), .int (p1), .int (p2)]) (n := 4) (Nat.le_of_ble_eq_true rfl)
  rw [lg_entry_eq]
  generalize (lg_sl ([.ref (eC E 0), .int (p1), .int (p2)]) ++ List.replicate (4 - (lg_sl ([.ref (eC E 0), .int (p1), .int (p2)])).length) Slot.unset).toArray = ls at hl ⊢
  have hl : lv_has ls 4 [(0, .ref (eC E 0)), (1, .int (p1)), (2, .int (p2))] := hl
  have hS : ∃ (H : Heap) (locs : List Loc), H = s.heap ∧ locs = [] ∧ gW E M S H ∧ va_S (eA E) s.heap H locs := ⟨_, _, rfl, rfl, hW, hS⟩
  clear hW
  obtain ⟨H, locs, eH, el, hW, hS⟩ := hS
  rw [← eH, ← el]
  clear eH el
  refine lv_iload_n hx hb dX10_face_0 rfl (lv_at hl 1 rfl) ?_
  refine k_Si (va_runS (As := [.int (p1)]) (rest := []) ⟨hx, hb, hml, hown, hts⟩ (c_X10_isPlace l p1) (va_cwS 1 hts gX10_face_X10_isPlace rfl rfl rfl (by decide +kernel) ⟨Nat.le_of_ble_eq_true rfl, Nat.le_of_ble_eq_true rfl⟩) gP0 rfl rfl hl.1 rfl (lv_room (Nat.le_of_ble_eq_true rfl)) dX10_face_1 ⟨Nat.le_of_ble_eq_true rfl, Nat.le_of_ble_eq_true rfl⟩) (fun r1 er1 => ?_)
  refine lv_if_eq (tgt := 19) hx hb dX10_face_4 (by decide) (fun c4 => ?_) (fun c4 => ?_)
  · refine lv_ldc hx hb (v := (-2000000001)) hown (hts (.constant RX10 86 (-2000000001)) (by decide +kernel)) dX10_face_19 ?_
    refine W.widen (k := 1) (n := 7) (by decide) (by decide) ?_
    exact W.iret (v := (-2000000001)) hx hb hr (fun t ht _ => ⟨⟨(-2000000001), S, rfl, ⟨q0, hf0, by subst er1; first | (simp only [q_X10_face, if_pos c4]; done) | contradiction⟩, by dsimp only; rw [ht]; exact hW⟩, hS.F ht⟩) hS.2.2 dX10_face_21
  · refine lv_iload_n hx hb dX10_face_7 rfl (lv_at hl 2 rfl) ?_
    refine lv_i2l (v := p2.toInt64) hx hb dX10_face_8 rfl ?_
    refine lv_lconst (v := 0) hx hb dX10_face_9 (by decide) ?_
    refine lv_ldc2 hx hb (v := 65535) hown (hts (.constantLong RX10 184 (65535)) (by decide +kernel)) dX10_face_10 ?_
    refine k_Si (va_runS (As := [.long (p2.toInt64), .long (0), .long (65535)]) (rest := []) ⟨hx, hb, hml, hown, hts⟩ (c_X10_within l (p2.toInt64) 0 65535) (va_cwS 3 hts gX10_face_X10_within rfl rfl rfl (by decide +kernel) ⟨Nat.le_of_ble_eq_true rfl, Nat.le_of_ble_eq_true rfl⟩) gP0 rfl rfl hl.1 rfl (lv_room (Nat.le_of_ble_eq_true rfl)) dX10_face_13 ⟨Nat.le_of_ble_eq_true rfl, Nat.le_of_ble_eq_true rfl⟩) (fun r13 er13 => ?_)
    refine lv_if_ne (tgt := 22) hx hb dX10_face_16 (by decide) (fun c16 => ?_) (fun c16 => ?_)
    · refine lv_aload_n hx hb dX10_face_22 rfl (lv_at hl 0 rfl) ?_
      refine lv_iload_n hx hb dX10_face_23 rfl (lv_at hl 1 rfl) ?_
      refine lv_iconst (v := 1) hx hb dX10_face_24 (by decide) ?_
      refine k_Sq (va_runV (As := [.int (p1), .int (1)]) (rest := []) ⟨hx, hb, hml, hown, hts⟩ (c_X10_dialAt l E M S p1 1 hT) (cwV 2 hts gX10_face_X10_dialAt rfl rfl rfl (by decide +kernel) ⟨Nat.le_of_ble_eq_true rfl, Nat.le_of_ble_eq_true rfl⟩) (gP.V (ci := 9) (q := (RX10, TX10, 12)) (q0 := 11) hE hS hW rfl rfl) rfl rfl hl.1 rfl (lv_room (Nat.le_of_ble_eq_true rfl)) dX10_face_25 ⟨Nat.le_of_ble_eq_true rfl, Nat.le_of_ble_eq_true rfl⟩) (fun r25 er25 => ?_)
      rcases r25 with _ | a25
      · refine lv_astore_nN (lv' := [(3, .null), (0, .ref (eC E 0)), (1, .int (p1)), (2, .int (p2))]) hx hb dX10_face_28 rfl hl (by decide) rfl (fun ls hl => ?_)
        refine lv_aload_nN hx hb dX10_face_29 rfl (lv_at hl 0 rfl) ?_
        refine lv_ifnonnullN hx hb dX10_face_30 ?_
        refine lv_ldc hx hb (v := (-2000000002)) hown (hts (.constant RX10 176 (-2000000002)) (by decide +kernel)) dX10_face_33 ?_
        refine W.widen (k := 1) (n := 7) (by decide) (by decide) ?_
        exact W.iret (v := (-2000000002)) hx hb hr (fun t ht _ => ⟨⟨(-2000000002), S, rfl, ⟨q0, hf0, by subst er13; subst er1; first | (simp only [q_X10_face, if_neg c4, if_neg c16, ← er25]; done) | contradiction⟩, by dsimp only; rw [ht]; exact hW⟩, hS.F ht⟩) hS.2.2 dX10_face_35
      · have hL25 := (da_of hT er25).1
        have hK25 := (da_of hT er25).2
        refine lv_astore_n (lv' := [(3, .ref (a25)), (0, .ref (eC E 0)), (1, .int (p1)), (2, .int (p2))]) hx hb dX10_face_28 rfl hl (by decide) rfl (fun ls hl => ?_)
        refine lv_aload_n hx hb dX10_face_29 rfl (lv_at hl 0 rfl) ?_
        refine lv_ifnonnull (tgt := 36) hx hb dX10_face_30 (by decide) ?_
        refine lv_aload_n hx hb dX10_face_36 rfl (lv_at hl 1 rfl) ?_
        refine lv_iload_n hx hb dX10_face_37 rfl (lv_at hl 2 rfl) ?_
        refine lv_aload_n hx hb dX10_face_38 rfl (lv_at hl 0 rfl) ?_
        refine lv_iload_n hx hb dX10_face_39 rfl (lv_at hl 3 rfl) ?_
        obtain ⟨k40, hk40⟩ := wJ_d E M (S := S) hL25 hK25
        refine va_callq (va_runV (As := [.int (p2)]) (rest := [.int (p1), .ref (eC E 0)]) ⟨hx, hb, hml, hown, hts⟩ (c_X1_withFacing l E M S a25 p2 hL25 hK25) (cwV 1 hts gX10_face_X1_withFacing rfl rfl rfl (by decide +kernel) ⟨Nat.le_of_ble_eq_true rfl, Nat.le_of_ble_eq_true rfl⟩) (gP.V (ci := 1) (q := (RX1, TX1, 7)) hE hS hW rfl hk40) rfl rfl hl.1 rfl (lv_room (Nat.le_of_ble_eq_true rfl)) dX10_face_40 ⟨Nat.le_of_ble_eq_true rfl, Nat.le_of_ble_eq_true rfl⟩) hS (fun _ _ h => h) (fun _ h => h) (fun r40 S40 t H locs ht hvm hw hB hz1 hk1 hS => ?_)
        obtain ⟨q40, hf40, hw⟩ := hw
        obtain ⟨er40, eS40⟩ := prj hw
        clear hw
        refine W.widen (k := 1) (n := 7) (by decide) (by decide) ?_
        have hW : gW E M S40 H := by rw [← ht]; exact hB
        have er402 : r40 = some q40 := er40
        subst er402
        have hL40 : q40 ∈ S40.2.2.1 := by rw [eS40]; exact List.mem_append_right _ (List.mem_singleton.mpr rfl)
        have hK40 : S40.2.2.2.1 q40 = 1 := by rw [eS40]; exact va_up_s
        refine va_callv (va_runV (As := [.int (p1), .ref (q40)]) (rest := []) ⟨hx, hb, hml, hown, hts⟩ (c_X10_put l E M S40 p1 (some q40) (by intro b h; cases h; exact hL40) (isPc_of er1 c4) (okR_L hT (by rw [eS40]; rfl) (by rw [eS40]; exact fun _ h => List.mem_append_left _ h))) (cwV 2 hts gX10_face_X10_put rfl rfl rfl (by decide +kernel) ⟨Nat.le_of_ble_eq_true rfl, Nat.le_of_ble_eq_true rfl⟩) (gP.V (ci := 9) (q := (RX10, TX10, 12)) (q0 := 11) hE hS hW rfl rfl) rfl rfl hl.1 rfl (lv_room (Nat.le_of_ble_eq_true rfl)) dX10_face_43 ⟨Nat.le_of_ble_eq_true rfl, Nat.le_of_ble_eq_true rfl⟩) hS (fun _ _ h => h) (fun _ h => h) (fun S43 t H locs ht hvm hw hB hz1 hk1 hS => ?_)
        have eS43 : S43 = q_X10_put S40 p1 (some q40) := hw
        clear hw
        have hW : gW E M S43 H := by rw [← ht]; exact hB
        have hpS43 : S43.2.2 = S40.2.2 := by rw [eS43]; exact (qp_X10_put _ _ _)
        refine lv_aload_n hx hb dX10_face_46 rfl (lv_at hl 0 rfl) ?_
        obtain ⟨k47, hk47⟩ := wJ_d E M (S := S43) (by rw [hpS43]; exact (by rw [eS40]; exact List.mem_append_left _ hL25)) (by rw [hpS43]; exact (by rw [eS40]; exact (va_up_ne _ _ (in_ne hL25 hf40)).trans hK25))
        refine va_getN (D := eD E) (cl := vwCl) (tys := eT E) (ci := 1) (C := RX1) (T := TX1) (N := 7) (v := .int (S43.2.2.2.2 a25 4)) hx hb hts hinX1 hown hE.1 hW.1 k47 hk47 rfl 4 (by decide) (va_Nw.use rfl (hE.2.2.1 (.fieldLinkNest "DialGarden" 190 "DialGarden$Dial" "facing" "I" "DialGarden") (by decide +kernel))) (fun _ h9 => h9) rfl dX10_face_47 ?_
        exact W.iret (v := S43.2.2.2.2 a25 4) hx hb hr (fun t ht _ => ⟨⟨S43.2.2.2.2 a25 4, S43, rfl, ⟨q40, hf40, by subst eS43; subst eS40; subst er13; subst er1; first | (simp only [q_X10_face, if_neg c4, if_neg c16, ← er25]; done) | contradiction⟩, by dsimp only; rw [ht]; exact hW⟩, hS.F ht⟩) hS.2.2 dX10_face_50
    · refine lv_ldc hx hb (v := (-2000000001)) hown (hts (.constant RX10 86 (-2000000001)) (by decide +kernel)) dX10_face_19 ?_
      refine W.widen (k := 1) (n := 7) (by decide) (by decide) ?_
      exact W.iret (v := (-2000000001)) hx hb hr (fun t ht _ => ⟨⟨(-2000000001), S, rfl, ⟨q0, hf0, by subst er13; subst er1; first | (simp only [q_X10_face, if_neg c4, if_pos c16]; done) | contradiction⟩, by dsimp only; rw [ht]; exact hW⟩, hS.F ht⟩) hS.2.2 dX10_face_21

def q_X10_tilt (S : gSc) (p1 : Int32) (p2 : Int32) (q : Nat) : Int32 × gSc := (let r1 := q_X10_isPlace p1; (if r1 = 0 then ((-2000000001), S) else (let r13 := q_X10_within (p2.toInt64) 0 16384; (if r13 = 0 then ((-2000000001), S) else (match q_X10_dialAt S p1 2 with | none => ((-2000000002), S) | some a25 => (let S40 := (q_X1_withSlant S a25 p2 q).2; (let S43 := q_X10_put S40 p1 (some q); (S43.2.2.2.2 a25 5, S43))))))))
set_option maxHeartbeats 4000000 in
set_option maxRecDepth 100000 in
theorem c_X10_tilt (l : Launch) (E : gEE) (M : gSm) (S : gSc) (p1 : Int32) (p2 : Int32) (hT : okR S 3 40) : Met l yX10_tilt wsX10_tilt ({ frames := 4, cells := 1, slots := 7, locals := 90 }) (va_Pc [.ref (eC E 0), .int (p1), .int (p2)] (gP E M S)) (va_Qi (fun r (u : gSc) => ∃ q : Nat, q ∉ S.2.2.1 ∧ (r, u) = q_X10_tilt S p1 p2 q) (fun u t => gW E M u t.heap) (eA E)) 1 7 (eA E) := by
  refine Met.ofW (cc := cX10_tilt) (maxL := 4) (ret := (some .int)) (by decide) rfl ?_
  intro p e s m args below meth c s₁ B hml hv
  obtain ⟨rfl, hE, hW⟩ := hv
  have hx := B.exec
  have hb := B.bytes
  have hr := B.returns
  have hts := atoms_spec (ws := wsX10_tilt) B.pre
  have hown : s.vm.findClass RX10 = some m.cls := findClass_of_methodNamed B.named
  have hlocks := B.notSynchronized
  obtain ⟨q0, hf0⟩ := fr_ex S.2.2.1
  have hinX1 : ∀ w ∈ wsX10, w ∈ wsX10_tilt := by decide +kernel
  have hS : va_S (eA E) s.heap s.heap [] := va_S.rf
  have hl := lv_entry ([.ref (eC E 0), .int (p1), .int (p2)]) (n := 4) (Nat.le_of_ble_eq_true rfl)
  rw [lg_entry_eq]
  generalize (lg_sl ([.ref (eC E 0), .int (p1), .int (p2)]) ++ List.replicate (4 - (lg_sl ([.ref (eC E 0), .int (p1), .int (p2)])).length) Slot.unset).toArray = ls at hl ⊢
  have hl : lv_has ls 4 [(0, .ref (eC E 0)), (1, .int (p1)), (2, .int (p2))] := hl
  have hS : ∃ (H : Heap) (locs : List Loc), H = s.heap ∧ locs = [] ∧ gW E M S H ∧ va_S (eA E) s.heap H locs := ⟨_, _, rfl, rfl, hW, hS⟩
  clear hW
  obtain ⟨H, locs, eH, el, hW, hS⟩ := hS
  rw [← eH, ← el]
  clear eH el
  refine lv_iload_n hx hb dX10_tilt_0 rfl (lv_at hl 1 rfl) ?_
  refine k_Si (va_runS (As := [.int (p1)]) (rest := []) ⟨hx, hb, hml, hown, hts⟩ (c_X10_isPlace l p1) (va_cwS 1 hts gX10_tilt_X10_isPlace rfl rfl rfl (by decide +kernel) ⟨Nat.le_of_ble_eq_true rfl, Nat.le_of_ble_eq_true rfl⟩) gP0 rfl rfl hl.1 rfl (lv_room (Nat.le_of_ble_eq_true rfl)) dX10_tilt_1 ⟨Nat.le_of_ble_eq_true rfl, Nat.le_of_ble_eq_true rfl⟩) (fun r1 er1 => ?_)
  refine lv_if_eq (tgt := 19) hx hb dX10_tilt_4 (by decide) (fun c4 => ?_) (fun c4 => ?_)
  · refine lv_ldc hx hb (v := (-2000000001)) hown (hts (.constant RX10 86 (-2000000001)) (by decide +kernel)) dX10_tilt_19 ?_
    refine W.widen (k := 1) (n := 7) (by decide) (by decide) ?_
    exact W.iret (v := (-2000000001)) hx hb hr (fun t ht _ => ⟨⟨(-2000000001), S, rfl, ⟨q0, hf0, by subst er1; first | (simp only [q_X10_tilt, if_pos c4]; done) | contradiction⟩, by dsimp only; rw [ht]; exact hW⟩, hS.F ht⟩) hS.2.2 dX10_tilt_21
  · refine lv_iload_n hx hb dX10_tilt_7 rfl (lv_at hl 2 rfl) ?_
    refine lv_i2l (v := p2.toInt64) hx hb dX10_tilt_8 rfl ?_
    refine lv_lconst (v := 0) hx hb dX10_tilt_9 (by decide) ?_
    refine lv_ldc2 hx hb (v := 16384) hown (hts (.constantLong RX10 80 (16384)) (by decide +kernel)) dX10_tilt_10 ?_
    refine k_Si (va_runS (As := [.long (p2.toInt64), .long (0), .long (16384)]) (rest := []) ⟨hx, hb, hml, hown, hts⟩ (c_X10_within l (p2.toInt64) 0 16384) (va_cwS 3 hts gX10_tilt_X10_within rfl rfl rfl (by decide +kernel) ⟨Nat.le_of_ble_eq_true rfl, Nat.le_of_ble_eq_true rfl⟩) gP0 rfl rfl hl.1 rfl (lv_room (Nat.le_of_ble_eq_true rfl)) dX10_tilt_13 ⟨Nat.le_of_ble_eq_true rfl, Nat.le_of_ble_eq_true rfl⟩) (fun r13 er13 => ?_)
    refine lv_if_ne (tgt := 22) hx hb dX10_tilt_16 (by decide) (fun c16 => ?_) (fun c16 => ?_)
    · refine lv_aload_n hx hb dX10_tilt_22 rfl (lv_at hl 0 rfl) ?_
      refine lv_iload_n hx hb dX10_tilt_23 rfl (lv_at hl 1 rfl) ?_
      refine lv_iconst (v := 2) hx hb dX10_tilt_24 (by decide) ?_
      refine k_Sq (va_runV (As := [.int (p1), .int (2)]) (rest := []) ⟨hx, hb, hml, hown, hts⟩ (c_X10_dialAt l E M S p1 2 hT) (cwV 2 hts gX10_tilt_X10_dialAt rfl rfl rfl (by decide +kernel) ⟨Nat.le_of_ble_eq_true rfl, Nat.le_of_ble_eq_true rfl⟩) (gP.V (ci := 9) (q := (RX10, TX10, 12)) (q0 := 11) hE hS hW rfl rfl) rfl rfl hl.1 rfl (lv_room (Nat.le_of_ble_eq_true rfl)) dX10_tilt_25 ⟨Nat.le_of_ble_eq_true rfl, Nat.le_of_ble_eq_true rfl⟩) (fun r25 er25 => ?_)
      rcases r25 with _ | a25
      · refine lv_astore_nN (lv' := [(3, .null), (0, .ref (eC E 0)), (1, .int (p1)), (2, .int (p2))]) hx hb dX10_tilt_28 rfl hl (by decide) rfl (fun ls hl => ?_)
        refine lv_aload_nN hx hb dX10_tilt_29 rfl (lv_at hl 0 rfl) ?_
        refine lv_ifnonnullN hx hb dX10_tilt_30 ?_
        refine lv_ldc hx hb (v := (-2000000002)) hown (hts (.constant RX10 176 (-2000000002)) (by decide +kernel)) dX10_tilt_33 ?_
        refine W.widen (k := 1) (n := 7) (by decide) (by decide) ?_
        exact W.iret (v := (-2000000002)) hx hb hr (fun t ht _ => ⟨⟨(-2000000002), S, rfl, ⟨q0, hf0, by subst er13; subst er1; first | (simp only [q_X10_tilt, if_neg c4, if_neg c16, ← er25]; done) | contradiction⟩, by dsimp only; rw [ht]; exact hW⟩, hS.F ht⟩) hS.2.2 dX10_tilt_35
      · have hL25 := (da_of hT er25).1
        have hK25 := (da_of hT er25).2
        refine lv_astore_n (lv' := [(3, .ref (a25)), (0, .ref (eC E 0)), (1, .int (p1)), (2, .int (p2))]) hx hb dX10_tilt_28 rfl hl (by decide) rfl (fun ls hl => ?_)
        refine lv_aload_n hx hb dX10_tilt_29 rfl (lv_at hl 0 rfl) ?_
        refine lv_ifnonnull (tgt := 36) hx hb dX10_tilt_30 (by decide) ?_
        refine lv_aload_n hx hb dX10_tilt_36 rfl (lv_at hl 1 rfl) ?_
        refine lv_iload_n hx hb dX10_tilt_37 rfl (lv_at hl 2 rfl) ?_
        refine lv_aload_n hx hb dX10_tilt_38 rfl (lv_at hl 0 rfl) ?_
        refine lv_iload_n hx hb dX10_tilt_39 rfl (lv_at hl 3 rfl) ?_
        obtain ⟨k40, hk40⟩ := wJ_d E M (S := S) hL25 hK25
        refine va_callq (va_runV (As := [.int (p2)]) (rest := [.int (p1), .ref (eC E 0)]) ⟨hx, hb, hml, hown, hts⟩ (c_X1_withSlant l E M S a25 p2 hL25 hK25) (cwV 1 hts gX10_tilt_X1_withSlant rfl rfl rfl (by decide +kernel) ⟨Nat.le_of_ble_eq_true rfl, Nat.le_of_ble_eq_true rfl⟩) (gP.V (ci := 1) (q := (RX1, TX1, 7)) hE hS hW rfl hk40) rfl rfl hl.1 rfl (lv_room (Nat.le_of_ble_eq_true rfl)) dX10_tilt_40 ⟨Nat.le_of_ble_eq_true rfl, Nat.le_of_ble_eq_true rfl⟩) hS (fun _ _ h => h) (fun _ h => h) (fun r40 S40 t H locs ht hvm hw hB hz1 hk1 hS => ?_)
        obtain ⟨q40, hf40, hw⟩ := hw
        obtain ⟨er40, eS40⟩ := prj hw
        clear hw
        refine W.widen (k := 1) (n := 7) (by decide) (by decide) ?_
        have hW : gW E M S40 H := by rw [← ht]; exact hB
        have er402 : r40 = some q40 := er40
        subst er402
        have hL40 : q40 ∈ S40.2.2.1 := by rw [eS40]; exact List.mem_append_right _ (List.mem_singleton.mpr rfl)
        have hK40 : S40.2.2.2.1 q40 = 1 := by rw [eS40]; exact va_up_s
        refine va_callv (va_runV (As := [.int (p1), .ref (q40)]) (rest := []) ⟨hx, hb, hml, hown, hts⟩ (c_X10_put l E M S40 p1 (some q40) (by intro b h; cases h; exact hL40) (isPc_of er1 c4) (okR_L hT (by rw [eS40]; rfl) (by rw [eS40]; exact fun _ h => List.mem_append_left _ h))) (cwV 2 hts gX10_tilt_X10_put rfl rfl rfl (by decide +kernel) ⟨Nat.le_of_ble_eq_true rfl, Nat.le_of_ble_eq_true rfl⟩) (gP.V (ci := 9) (q := (RX10, TX10, 12)) (q0 := 11) hE hS hW rfl rfl) rfl rfl hl.1 rfl (lv_room (Nat.le_of_ble_eq_true rfl)) dX10_tilt_43 ⟨Nat.le_of_ble_eq_true rfl, Nat.le_of_ble_eq_true rfl⟩) hS (fun _ _ h => h) (fun _ h => h) (fun S43 t H locs ht hvm hw hB hz1 hk1 hS => ?_)
        have eS43 : S43 = q_X10_put S40 p1 (some q40) := hw
        clear hw
        have hW : gW E M S43 H := by rw [← ht]; exact hB
        have hpS43 : S43.2.2 = S40.2.2 := by rw [eS43]; exact (qp_X10_put _ _ _)
        refine lv_aload_n hx hb dX10_tilt_46 rfl (lv_at hl 0 rfl) ?_
        obtain ⟨k47, hk47⟩ := wJ_d E M (S := S43) (by rw [hpS43]; exact (by rw [eS40]; exact List.mem_append_left _ hL25)) (by rw [hpS43]; exact (by rw [eS40]; exact (va_up_ne _ _ (in_ne hL25 hf40)).trans hK25))
        refine va_getN (D := eD E) (cl := vwCl) (tys := eT E) (ci := 1) (C := RX1) (T := TX1) (N := 7) (v := .int (S43.2.2.2.2 a25 5)) hx hb hts hinX1 hown hE.1 hW.1 k47 hk47 rfl 5 (by decide) (va_Nw.use rfl (hE.2.2.1 (.fieldLinkNest "DialGarden" 196 "DialGarden$Dial" "slant" "I" "DialGarden") (by decide +kernel))) (fun _ h9 => h9) rfl dX10_tilt_47 ?_
        exact W.iret (v := S43.2.2.2.2 a25 5) hx hb hr (fun t ht _ => ⟨⟨S43.2.2.2.2 a25 5, S43, rfl, ⟨q40, hf40, by subst eS43; subst eS40; subst er13; subst er1; first | (simp only [q_X10_tilt, if_neg c4, if_neg c16, ← er25]; done) | contradiction⟩, by dsimp only; rw [ht]; exact hW⟩, hS.F ht⟩) hS.2.2 dX10_tilt_50
    · refine lv_ldc hx hb (v := (-2000000001)) hown (hts (.constant RX10 86 (-2000000001)) (by decide +kernel)) dX10_tilt_19 ?_
      refine W.widen (k := 1) (n := 7) (by decide) (by decide) ?_
      exact W.iret (v := (-2000000001)) hx hb hr (fun t ht _ => ⟨⟨(-2000000001), S, rfl, ⟨q0, hf0, by subst er13; subst er1; first | (simp only [q_X10_tilt, if_neg c4, if_pos c16]; done) | contradiction⟩, by dsimp only; rw [ht]; exact hW⟩, hS.F ht⟩) hS.2.2 dX10_tilt_21

def q_X10_left (S : gSc) (p1 : Int32) (p2 : Int32) (p3 : Int32) (q : Nat) : Int32 × gSc := (let r1 := q_X10_isPlace p1; (if r1 = 0 then ((-2000000001), S) else (let r8 := q_X10_isHour p2; (if r8 = 0 then ((-2000000001), S) else (let r18 := q_X10_within (p3.toInt64) 0 1; (if r18 = 0 then ((-2000000001), S) else (match q_X10_dialAt S p1 4 with | none => ((-2000000002), S) | some a30 => (let S49 := (q_X1_withHour S a30 p2 p3 q).2; (let S52 := q_X10_put S49 p1 (some q); (let r58 := q_X1_hourLeft S52 a30 p2; (r58, S52)))))))))))
set_option maxHeartbeats 4000000 in
set_option maxRecDepth 100000 in
theorem c_X10_left (l : Launch) (E : gEE) (M : gSm) (S : gSc) (p1 : Int32) (p2 : Int32) (p3 : Int32) (hT : okR S 3 40) : Met l yX10_left wsX10_left ({ frames := 4, cells := 1, slots := 7, locals := 90 }) (va_Pc [.ref (eC E 0), .int (p1), .int (p2), .int (p3)] (gP E M S)) (va_Qi (fun r (u : gSc) => ∃ q : Nat, q ∉ S.2.2.1 ∧ (r, u) = q_X10_left S p1 p2 p3 q) (fun u t => gW E M u t.heap) (eA E)) 1 7 (eA E) := by
  refine Met.ofW (cc := cX10_left) (maxL := 5) (ret := (some .int)) (by decide) rfl ?_
  intro p e s m args below meth c s₁ B hml hv
  obtain ⟨rfl, hE, hW⟩ := hv
  have hx := B.exec
  have hb := B.bytes
  have hr := B.returns
  have hts := atoms_spec (ws := wsX10_left) B.pre
  have hown : s.vm.findClass RX10 = some m.cls := findClass_of_methodNamed B.named
  have hlocks := B.notSynchronized
  obtain ⟨q0, hf0⟩ := fr_ex S.2.2.1
  have hS : va_S (eA E) s.heap s.heap [] := va_S.rf
  have hl := lv_entry ([.ref (eC E 0), .int (p1), .int (p2), .int (p3)]) (n := 5) (Nat.le_of_ble_eq_true rfl)
  rw [lg_entry_eq]
  generalize (lg_sl ([.ref (eC E 0), .int (p1), .int (p2), .int (p3)]) ++ List.replicate (5 - (lg_sl ([.ref (eC E 0), .int (p1), .int (p2), .int (p3)])).length) Slot.unset).toArray = ls at hl ⊢
  have hl : lv_has ls 5 [(0, .ref (eC E 0)), (1, .int (p1)), (2, .int (p2)), (3, .int (p3))] := hl
  have hS : ∃ (H : Heap) (locs : List Loc), H = s.heap ∧ locs = [] ∧ gW E M S H ∧ va_S (eA E) s.heap H locs := ⟨_, _, rfl, rfl, hW, hS⟩
  clear hW
  obtain ⟨H, locs, eH, el, hW, hS⟩ := hS
  rw [← eH, ← el]
  clear eH el
  refine lv_iload_n hx hb dX10_left_0 rfl (lv_at hl 1 rfl) ?_
  refine k_Si (va_runS (As := [.int (p1)]) (rest := []) ⟨hx, hb, hml, hown, hts⟩ (c_X10_isPlace l p1) (va_cwS 1 hts gX10_left_X10_isPlace rfl rfl rfl (by decide +kernel) ⟨Nat.le_of_ble_eq_true rfl, Nat.le_of_ble_eq_true rfl⟩) gP0 rfl rfl hl.1 rfl (lv_room (Nat.le_of_ble_eq_true rfl)) dX10_left_1 ⟨Nat.le_of_ble_eq_true rfl, Nat.le_of_ble_eq_true rfl⟩) (fun r1 er1 => ?_)
  refine lv_if_eq (tgt := 24) hx hb dX10_left_4 (by decide) (fun c4 => ?_) (fun c4 => ?_)
  · refine lv_ldc hx hb (v := (-2000000001)) hown (hts (.constant RX10 86 (-2000000001)) (by decide +kernel)) dX10_left_24 ?_
    refine W.widen (k := 1) (n := 7) (by decide) (by decide) ?_
    exact W.iret (v := (-2000000001)) hx hb hr (fun t ht _ => ⟨⟨(-2000000001), S, rfl, ⟨q0, hf0, by subst er1; first | (simp only [q_X10_left, if_pos c4]; done) | contradiction⟩, by dsimp only; rw [ht]; exact hW⟩, hS.F ht⟩) hS.2.2 dX10_left_26
  · refine lv_iload_n hx hb dX10_left_7 rfl (lv_at hl 2 rfl) ?_
    refine k_Si (va_runS (As := [.int (p2)]) (rest := []) ⟨hx, hb, hml, hown, hts⟩ (c_X10_isHour l p2) (va_cwS 1 hts gX10_left_X10_isHour rfl rfl rfl (by decide +kernel) ⟨Nat.le_of_ble_eq_true rfl, Nat.le_of_ble_eq_true rfl⟩) gP0 rfl rfl hl.1 rfl (lv_room (Nat.le_of_ble_eq_true rfl)) dX10_left_8 ⟨Nat.le_of_ble_eq_true rfl, Nat.le_of_ble_eq_true rfl⟩) (fun r8 er8 => ?_)
    refine lv_if_eq (tgt := 24) hx hb dX10_left_11 (by decide) (fun c11 => ?_) (fun c11 => ?_)
    · refine lv_ldc hx hb (v := (-2000000001)) hown (hts (.constant RX10 86 (-2000000001)) (by decide +kernel)) dX10_left_24 ?_
      refine W.widen (k := 1) (n := 7) (by decide) (by decide) ?_
      exact W.iret (v := (-2000000001)) hx hb hr (fun t ht _ => ⟨⟨(-2000000001), S, rfl, ⟨q0, hf0, by subst er8; subst er1; first | (simp only [q_X10_left, if_neg c4, if_pos c11]; done) | contradiction⟩, by dsimp only; rw [ht]; exact hW⟩, hS.F ht⟩) hS.2.2 dX10_left_26
    · refine lv_iload_n hx hb dX10_left_14 rfl (lv_at hl 3 rfl) ?_
      refine lv_i2l (v := p3.toInt64) hx hb dX10_left_15 rfl ?_
      refine lv_lconst (v := 0) hx hb dX10_left_16 (by decide) ?_
      refine lv_lconst (v := 1) hx hb dX10_left_17 (by decide) ?_
      refine k_Si (va_runS (As := [.long (p3.toInt64), .long (0), .long (1)]) (rest := []) ⟨hx, hb, hml, hown, hts⟩ (c_X10_within l (p3.toInt64) 0 1) (va_cwS 3 hts gX10_left_X10_within rfl rfl rfl (by decide +kernel) ⟨Nat.le_of_ble_eq_true rfl, Nat.le_of_ble_eq_true rfl⟩) gP0 rfl rfl hl.1 rfl (lv_room (Nat.le_of_ble_eq_true rfl)) dX10_left_18 ⟨Nat.le_of_ble_eq_true rfl, Nat.le_of_ble_eq_true rfl⟩) (fun r18 er18 => ?_)
      refine lv_if_ne (tgt := 27) hx hb dX10_left_21 (by decide) (fun c21 => ?_) (fun c21 => ?_)
      · refine lv_aload_n hx hb dX10_left_27 rfl (lv_at hl 0 rfl) ?_
        refine lv_iload_n hx hb dX10_left_28 rfl (lv_at hl 1 rfl) ?_
        refine lv_iconst (v := 4) hx hb dX10_left_29 (by decide) ?_
        refine k_Sq (va_runV (As := [.int (p1), .int (4)]) (rest := []) ⟨hx, hb, hml, hown, hts⟩ (c_X10_dialAt l E M S p1 4 hT) (cwV 2 hts gX10_left_X10_dialAt rfl rfl rfl (by decide +kernel) ⟨Nat.le_of_ble_eq_true rfl, Nat.le_of_ble_eq_true rfl⟩) (gP.V (ci := 9) (q := (RX10, TX10, 12)) (q0 := 11) hE hS hW rfl rfl) rfl rfl hl.1 rfl (lv_room (Nat.le_of_ble_eq_true rfl)) dX10_left_30 ⟨Nat.le_of_ble_eq_true rfl, Nat.le_of_ble_eq_true rfl⟩) (fun r30 er30 => ?_)
        rcases r30 with _ | a30
        · refine lv_astoreN (lv' := [(4, .null), (0, .ref (eC E 0)), (1, .int (p1)), (2, .int (p2)), (3, .int (p3))]) hx hb dX10_left_33 hl (by decide) rfl (fun ls hl => ?_)
          refine lv_aloadN hx hb dX10_left_35 (lv_at hl 0 rfl) ?_
          refine lv_ifnonnullN hx hb dX10_left_37 ?_
          refine lv_ldc hx hb (v := (-2000000002)) hown (hts (.constant RX10 176 (-2000000002)) (by decide +kernel)) dX10_left_40 ?_
          refine W.widen (k := 1) (n := 7) (by decide) (by decide) ?_
          exact W.iret (v := (-2000000002)) hx hb hr (fun t ht _ => ⟨⟨(-2000000002), S, rfl, ⟨q0, hf0, by subst er18; subst er8; subst er1; first | (simp only [q_X10_left, if_neg c4, if_neg c11, if_neg c21, ← er30]; done) | contradiction⟩, by dsimp only; rw [ht]; exact hW⟩, hS.F ht⟩) hS.2.2 dX10_left_42
        · have hL30 := (da_of hT er30).1
          have hK30 := (da_of hT er30).2
          refine lv_astore (lv' := [(4, .ref (a30)), (0, .ref (eC E 0)), (1, .int (p1)), (2, .int (p2)), (3, .int (p3))]) hx hb dX10_left_33 hl (by decide) rfl (fun ls hl => ?_)
          refine lv_aload hx hb dX10_left_35 (lv_at hl 0 rfl) ?_
          refine lv_ifnonnull (tgt := 43) hx hb dX10_left_37 (by decide) ?_
          refine lv_aload_n hx hb dX10_left_43 rfl (lv_at hl 1 rfl) ?_
          refine lv_iload_n hx hb dX10_left_44 rfl (lv_at hl 2 rfl) ?_
          refine lv_aload hx hb dX10_left_45 (lv_at hl 0 rfl) ?_
          refine lv_iload_n hx hb dX10_left_47 rfl (lv_at hl 3 rfl) ?_
          refine lv_iload_n hx hb dX10_left_48 rfl (lv_at hl 4 rfl) ?_
          obtain ⟨k49, hk49⟩ := wJ_d E M (S := S) hL30 hK30
          refine va_callq (va_runV (As := [.int (p2), .int (p3)]) (rest := [.int (p1), .ref (eC E 0)]) ⟨hx, hb, hml, hown, hts⟩ (c_X1_withHour l E M S a30 p2 p3 hL30 hK30) (cwV 2 hts gX10_left_X1_withHour rfl rfl rfl (by decide +kernel) ⟨Nat.le_of_ble_eq_true rfl, Nat.le_of_ble_eq_true rfl⟩) (gP.V (ci := 1) (q := (RX1, TX1, 7)) hE hS hW rfl hk49) rfl rfl hl.1 rfl (lv_room (Nat.le_of_ble_eq_true rfl)) dX10_left_49 ⟨Nat.le_of_ble_eq_true rfl, Nat.le_of_ble_eq_true rfl⟩) hS (fun _ _ h => h) (fun _ h => h) (fun r49 S49 t H locs ht hvm hw hB hz1 hk1 hS => ?_)
          obtain ⟨q49, hf49, hw⟩ := hw
          obtain ⟨er49, eS49⟩ := prj hw
          clear hw
          refine W.widen (k := 1) (n := 7) (by decide) (by decide) ?_
          have hW : gW E M S49 H := by rw [← ht]; exact hB
          have er492 : r49 = some q49 := er49
          subst er492
          have hL49 : q49 ∈ S49.2.2.1 := by rw [eS49]; exact List.mem_append_right _ (List.mem_singleton.mpr rfl)
          have hK49 : S49.2.2.2.1 q49 = 1 := by rw [eS49]; exact va_up_s
          refine va_callv (va_runV (As := [.int (p1), .ref (q49)]) (rest := []) ⟨hx, hb, hml, hown, hts⟩ (c_X10_put l E M S49 p1 (some q49) (by intro b h; cases h; exact hL49) (isPc_of er1 c4) (okR_L hT (by rw [eS49]; rfl) (by rw [eS49]; exact fun _ h => List.mem_append_left _ h))) (cwV 2 hts gX10_left_X10_put rfl rfl rfl (by decide +kernel) ⟨Nat.le_of_ble_eq_true rfl, Nat.le_of_ble_eq_true rfl⟩) (gP.V (ci := 9) (q := (RX10, TX10, 12)) (q0 := 11) hE hS hW rfl rfl) rfl rfl hl.1 rfl (lv_room (Nat.le_of_ble_eq_true rfl)) dX10_left_52 ⟨Nat.le_of_ble_eq_true rfl, Nat.le_of_ble_eq_true rfl⟩) hS (fun _ _ h => h) (fun _ h => h) (fun S52 t H locs ht hvm hw hB hz1 hk1 hS => ?_)
          have eS52 : S52 = q_X10_put S49 p1 (some q49) := hw
          clear hw
          have hW : gW E M S52 H := by rw [← ht]; exact hB
          have hpS52 : S52.2.2 = S49.2.2 := by rw [eS52]; exact (qp_X10_put _ _ _)
          refine lv_aload hx hb dX10_left_55 (lv_at hl 0 rfl) ?_
          refine lv_iload_n hx hb dX10_left_57 rfl (lv_at hl 3 rfl) ?_
          obtain ⟨k58, hk58⟩ := wJ_d E M (S := S52) (by rw [hpS52]; exact (by rw [eS49]; exact List.mem_append_left _ hL30)) (by rw [hpS52]; exact (by rw [eS49]; exact (va_up_ne _ _ (in_ne hL30 hf49)).trans hK30))
          refine k_Si (va_runV (As := [.int (p2)]) (rest := []) ⟨hx, hb, hml, hown, hts⟩ (c_X1_hourLeft l E M S52 a30 p2 (by rw [hpS52]; exact (by rw [eS49]; exact List.mem_append_left _ hL30)) (by rw [hpS52]; exact (by rw [eS49]; exact (va_up_ne _ _ (in_ne hL30 hf49)).trans hK30))) (cwV 1 hts gX10_left_X1_hourLeft rfl rfl rfl (by decide +kernel) ⟨Nat.le_of_ble_eq_true rfl, Nat.le_of_ble_eq_true rfl⟩) (gP.V (ci := 1) (q := (RX1, TX1, 7)) hE hS hW rfl hk58) rfl rfl hl.1 rfl (lv_room (Nat.le_of_ble_eq_true rfl)) dX10_left_58 ⟨Nat.le_of_ble_eq_true rfl, Nat.le_of_ble_eq_true rfl⟩) (fun r58 er58 => ?_)
          exact W.iret (v := r58) hx hb hr (fun t ht _ => ⟨⟨r58, S52, rfl, ⟨q49, hf49, by subst er58; subst eS52; subst eS49; subst er18; subst er8; subst er1; first | (simp only [q_X10_left, if_neg c4, if_neg c11, if_neg c21, ← er30]; done) | contradiction⟩, by dsimp only; rw [ht]; exact hW⟩, hS.F ht⟩) hS.2.2 dX10_left_61
      · refine lv_ldc hx hb (v := (-2000000001)) hown (hts (.constant RX10 86 (-2000000001)) (by decide +kernel)) dX10_left_24 ?_
        refine W.widen (k := 1) (n := 7) (by decide) (by decide) ?_
        exact W.iret (v := (-2000000001)) hx hb hr (fun t ht _ => ⟨⟨(-2000000001), S, rfl, ⟨q0, hf0, by subst er18; subst er8; subst er1; first | (simp only [q_X10_left, if_neg c4, if_neg c11, if_pos c21]; done) | contradiction⟩, by dsimp only; rw [ht]; exact hW⟩, hS.F ht⟩) hS.2.2 dX10_left_26

def q_X10_holds (S : gSc) (p1 : Int32) : Int32 := (let r1 := q_X10_isPlace p1; (if r1 = 0 then (-2000000001) else (match S.2.1 3 (p1.toNatClampNeg) with | none => 0 | some a15 => (if S.2.2.2.1 a15 = 1 then (let r26 := q_X1_sort S a15; r26) else (let r26 := q_X2_sort S a15; r26)))))
set_option maxHeartbeats 4000000 in
set_option maxRecDepth 100000 in
theorem c_X10_holds (l : Launch) (E : gEE) (M : gSm) (S : gSc) (p1 : Int32) (hT : okR S 3 40) : Met l yX10_holds wsX10_holds ({ frames := 2, cells := 0, slots := 0, locals := 45 }) (va_Pc [.ref (eC E 0), .int (p1)] (gP E M S)) (vp_Si (fun r => r = q_X10_holds S p1)) 0 0 (fun _ => False) := by
  refine Met.ofW (cc := cX10_holds) (maxL := 3) (ret := (some .int)) (by decide) rfl ?_
  intro p e s m args below meth c s₁ B hml hv
  obtain ⟨rfl, hE, hW⟩ := hv
  have hx := B.exec
  have hb := B.bytes
  have hr := B.returns
  have hts := atoms_spec (ws := wsX10_holds) B.pre
  have hown : s.vm.findClass RX10 = some m.cls := findClass_of_methodNamed B.named
  have hlocks := B.notSynchronized
  have hinX10 : ∀ w ∈ wsX100, w ∈ wsX10_holds := by decide +kernel
  have hS : va_S (eA E) s.heap s.heap [] := va_S.rf
  have hl := lv_entry ([.ref (eC E 0), .int (p1)]) (n := 3) (Nat.le_of_ble_eq_true rfl)
  rw [lg_entry_eq]
  generalize (lg_sl ([.ref (eC E 0), .int (p1)]) ++ List.replicate (3 - (lg_sl ([.ref (eC E 0), .int (p1)])).length) Slot.unset).toArray = ls at hl ⊢
  have hl : lv_has ls 3 [(0, .ref (eC E 0)), (1, .int (p1))] := hl
  refine lv_iload_n hx hb dX10_holds_0 rfl (lv_at hl 1 rfl) ?_
  refine k_Si (va_runS (As := [.int (p1)]) (rest := []) ⟨hx, hb, hml, hown, hts⟩ (c_X10_isPlace l p1) (va_cwS 1 hts gX10_holds_X10_isPlace rfl rfl rfl (by decide +kernel) ⟨Nat.le_of_ble_eq_true rfl, Nat.le_of_ble_eq_true rfl⟩) gP0 rfl rfl hl.1 rfl (lv_room (Nat.le_of_ble_eq_true rfl)) dX10_holds_1 ⟨Nat.le_of_ble_eq_true rfl, Nat.le_of_ble_eq_true rfl⟩) (fun r1 er1 => ?_)
  refine lv_if_ne (tgt := 10) hx hb dX10_holds_4 (by decide) (fun c4 => ?_) (fun c4 => ?_)
  · refine lv_aload_n hx hb dX10_holds_10 rfl (lv_at hl 0 rfl) ?_
    refine va_get (D := eD E) (cl := vwCl) (tys := eT E) (ci := 9) (C := RX10) (T := TX10) (N := 12) (v := .ref (eC E 3)) hx hb hts hinX10 hown hE.1 hW.1 11 rfl rfl 1 (by decide) (hts (.fieldLink RX10 18 "DialGarden" "things" "[LDialGarden$Thing;") (by decide +kernel)) (fun _ h9 => h9) rfl dX10_holds_11 ?_
    refine lv_iload_n hx hb dX10_holds_14 rfl (lv_at hl 1 rfl) ?_
    refine va_aldq (D := eD E) (cl := vwCl) (tys := eT E) (f := S.2.1 3) hx hb hE.1 hW.1 14 4 rfl rfl (vx (isPc_of er1 c4).1 (isPc_of er1 c4).2) dX10_holds_15 ?_
    rcases ho15 : S.2.1 3 (p1.toNatClampNeg) with _ | a15
    · refine lv_astore_nN (lv' := [(2, .null), (0, .ref (eC E 0)), (1, .int (p1))]) hx hb dX10_holds_16 rfl hl (by decide) rfl (fun ls hl => ?_)
      refine lv_aload_nN hx hb dX10_holds_17 rfl (lv_at hl 0 rfl) ?_
      refine lv_ifnonnullN hx hb dX10_holds_18 ?_
      refine lv_iconst (v := 0) hx hb dX10_holds_21 (by decide) ?_
      refine lv_goto (tgt := 29) hx hb dX10_holds_22 (by decide) ?_
      exact W.iret (v := 0) hx hb hr (fun t ht _ => ⟨0, rfl, by subst er1; first | (simp only [q_X10_holds, if_neg c4, ho15]; done) | contradiction, ht⟩) (fun _ h => nomatch h) dX10_holds_29
    · have hL15 : a15 ∈ S.2.2.1 := hT _ _ (isP_lt (isPc_of er1 c4)) ho15
      refine lv_astore_n (lv' := [(2, .ref (a15)), (0, .ref (eC E 0)), (1, .int (p1))]) hx hb dX10_holds_16 rfl hl (by decide) rfl (fun ls hl => ?_)
      refine lv_aload_n hx hb dX10_holds_17 rfl (lv_at hl 0 rfl) ?_
      refine lv_ifnonnull (tgt := 25) hx hb dX10_holds_18 (by decide) ?_
      refine lv_aload_n hx hb dX10_holds_25 rfl (lv_at hl 0 rfl) ?_
      by_cases hK26 : S.2.2.2.1 a15 = 1
      · obtain ⟨k26, hk26⟩ := wJ_d E M (S := S) hL15 hK26
        refine k_Si (va_runU (As := []) (rest := []) ⟨hx, hb, hml, hown, hts⟩ (c_X1_sort l E M S a15 hL15 hK26) (va_cwA 0 hts gX10_holds_X1_sort_u208X1 rfl rfl rfl (hE.2.2.1 (.declares ⟨"DialGarden$Thing", "sort", "()I"⟩) (by decide +kernel)) (by decide +kernel) ⟨Nat.le_of_ble_eq_true rfl, Nat.le_of_ble_eq_true rfl⟩) (gP.V (ci := 1) (q := (RX1, TX1, 7)) hE hS hW rfl hk26) rfl rfl hl.1 rfl (lv_room (Nat.le_of_ble_eq_true rfl)) dX10_holds_26 ⟨Nat.le_of_ble_eq_true rfl, Nat.le_of_ble_eq_true rfl⟩) (fun r26 er26 => ?_)
        exact W.iret (v := r26) hx hb hr (fun t ht _ => ⟨r26, rfl, by subst er26; subst er1; first | (simp only [q_X10_holds, if_neg c4, if_pos hK26, ho15]; done) | contradiction, ht⟩) (fun _ h => nomatch h) dX10_holds_29
      · obtain ⟨k26, hk26⟩ := wJ_h E M (S := S) hL15 hK26
        refine k_Si (va_runU (As := []) (rest := []) ⟨hx, hb, hml, hown, hts⟩ (c_X2_sort l E M S a15 hL15 hK26) (va_cwA 0 hts gX10_holds_X2_sort_u208X2 rfl rfl rfl (hE.2.2.1 (.declares ⟨"DialGarden$Thing", "sort", "()I"⟩) (by decide +kernel)) (by decide +kernel) ⟨Nat.le_of_ble_eq_true rfl, Nat.le_of_ble_eq_true rfl⟩) (gP.V (ci := 2) (q := (RX2, TX2, 5)) hE hS hW rfl hk26) rfl rfl hl.1 rfl (lv_room (Nat.le_of_ble_eq_true rfl)) dX10_holds_26 ⟨Nat.le_of_ble_eq_true rfl, Nat.le_of_ble_eq_true rfl⟩) (fun r26 er26 => ?_)
        exact W.iret (v := r26) hx hb hr (fun t ht _ => ⟨r26, rfl, by subst er26; subst er1; first | (simp only [q_X10_holds, if_neg c4, if_neg hK26, ho15]; done) | contradiction, ht⟩) (fun _ h => nomatch h) dX10_holds_29
  · refine lv_ldc hx hb (v := (-2000000001)) hown (hts (.constant RX10 86 (-2000000001)) (by decide +kernel)) dX10_holds_7 ?_
    exact W.iret (v := (-2000000001)) hx hb hr (fun t ht _ => ⟨(-2000000001), rfl, by subst er1; first | (simp only [q_X10_holds, if_pos c4]; done) | contradiction, ht⟩) (fun _ h => nomatch h) dX10_holds_9

def q_X10_about (S : gSc) (p1 : Int32) (p2 : Int32) : Int32 := (let r1 := q_X10_isPlace p1; (if r1 = 0 then (-2000000001) else (let r13 := q_X10_within (p2.toInt64) 0 5; (if r13 = 0 then (-2000000001) else (match S.2.1 3 (p1.toNatClampNeg) with | none => (-2000000002) | some a27 => (if S.2.2.2.1 a27 = 1 then (let r40 := q_X1_property S a27 p2; r40) else (let r40 := q_X2_property S a27 p2; r40)))))))
set_option maxHeartbeats 4000000 in
set_option maxRecDepth 100000 in
theorem c_X10_about (l : Launch) (E : gEE) (M : gSm) (S : gSc) (p1 : Int32) (p2 : Int32) (hT : okR S 3 40) : Met l yX10_about wsX10_about ({ frames := 4, cells := 0, slots := 0, locals := 87 }) (va_Pc [.ref (eC E 0), .int (p1), .int (p2)] (gP E M S)) (vp_Si (fun r => r = q_X10_about S p1 p2)) 0 0 (fun _ => False) := by
  refine Met.ofW (cc := cX10_about) (maxL := 4) (ret := (some .int)) (by decide) rfl ?_
  intro p e s m args below meth c s₁ B hml hv
  obtain ⟨rfl, hE, hW⟩ := hv
  have hx := B.exec
  have hb := B.bytes
  have hr := B.returns
  have hts := atoms_spec (ws := wsX10_about) B.pre
  have hown : s.vm.findClass RX10 = some m.cls := findClass_of_methodNamed B.named
  have hlocks := B.notSynchronized
  have hinX10 : ∀ w ∈ wsX100, w ∈ wsX10_about := by decide +kernel
  have hS : va_S (eA E) s.heap s.heap [] := va_S.rf
  have hl := lv_entry ([.ref (eC E 0), .int (p1), .int (p2)]) (n := 4) (Nat.le_of_ble_eq_true rfl)
  rw [lg_entry_eq]
  generalize (lg_sl ([.ref (eC E 0), .int (p1), .int (p2)]) ++ List.replicate (4 - (lg_sl ([.ref (eC E 0), .int (p1), .int (p2)])).length) Slot.unset).toArray = ls at hl ⊢
  have hl : lv_has ls 4 [(0, .ref (eC E 0)), (1, .int (p1)), (2, .int (p2))] := hl
  refine lv_iload_n hx hb dX10_about_0 rfl (lv_at hl 1 rfl) ?_
  refine k_Si (va_runS (As := [.int (p1)]) (rest := []) ⟨hx, hb, hml, hown, hts⟩ (c_X10_isPlace l p1) (va_cwS 1 hts gX10_about_X10_isPlace rfl rfl rfl (by decide +kernel) ⟨Nat.le_of_ble_eq_true rfl, Nat.le_of_ble_eq_true rfl⟩) gP0 rfl rfl hl.1 rfl (lv_room (Nat.le_of_ble_eq_true rfl)) dX10_about_1 ⟨Nat.le_of_ble_eq_true rfl, Nat.le_of_ble_eq_true rfl⟩) (fun r1 er1 => ?_)
  refine lv_if_eq (tgt := 19) hx hb dX10_about_4 (by decide) (fun c4 => ?_) (fun c4 => ?_)
  · refine lv_ldc hx hb (v := (-2000000001)) hown (hts (.constant RX10 86 (-2000000001)) (by decide +kernel)) dX10_about_19 ?_
    exact W.iret (v := (-2000000001)) hx hb hr (fun t ht _ => ⟨(-2000000001), rfl, by subst er1; first | (simp only [q_X10_about, if_pos c4]; done) | contradiction, ht⟩) (fun _ h => nomatch h) dX10_about_21
  · refine lv_iload_n hx hb dX10_about_7 rfl (lv_at hl 2 rfl) ?_
    refine lv_i2l (v := p2.toInt64) hx hb dX10_about_8 rfl ?_
    refine lv_lconst (v := 0) hx hb dX10_about_9 (by decide) ?_
    refine lv_ldc2 hx hb (v := 5) hown (hts (.constantLong RX10 119 (5)) (by decide +kernel)) dX10_about_10 ?_
    refine k_Si (va_runS (As := [.long (p2.toInt64), .long (0), .long (5)]) (rest := []) ⟨hx, hb, hml, hown, hts⟩ (c_X10_within l (p2.toInt64) 0 5) (va_cwS 3 hts gX10_about_X10_within rfl rfl rfl (by decide +kernel) ⟨Nat.le_of_ble_eq_true rfl, Nat.le_of_ble_eq_true rfl⟩) gP0 rfl rfl hl.1 rfl (lv_room (Nat.le_of_ble_eq_true rfl)) dX10_about_13 ⟨Nat.le_of_ble_eq_true rfl, Nat.le_of_ble_eq_true rfl⟩) (fun r13 er13 => ?_)
    refine lv_if_ne (tgt := 22) hx hb dX10_about_16 (by decide) (fun c16 => ?_) (fun c16 => ?_)
    · refine lv_aload_n hx hb dX10_about_22 rfl (lv_at hl 0 rfl) ?_
      refine va_get (D := eD E) (cl := vwCl) (tys := eT E) (ci := 9) (C := RX10) (T := TX10) (N := 12) (v := .ref (eC E 3)) hx hb hts hinX10 hown hE.1 hW.1 11 rfl rfl 1 (by decide) (hts (.fieldLink RX10 18 "DialGarden" "things" "[LDialGarden$Thing;") (by decide +kernel)) (fun _ h9 => h9) rfl dX10_about_23 ?_
      refine lv_iload_n hx hb dX10_about_26 rfl (lv_at hl 1 rfl) ?_
      refine va_aldq (D := eD E) (cl := vwCl) (tys := eT E) (f := S.2.1 3) hx hb hE.1 hW.1 14 4 rfl rfl (vx (isPc_of er1 c4).1 (isPc_of er1 c4).2) dX10_about_27 ?_
      rcases ho27 : S.2.1 3 (p1.toNatClampNeg) with _ | a27
      · refine lv_astore_nN (lv' := [(3, .null), (0, .ref (eC E 0)), (1, .int (p1)), (2, .int (p2))]) hx hb dX10_about_28 rfl hl (by decide) rfl (fun ls hl => ?_)
        refine lv_aload_nN hx hb dX10_about_29 rfl (lv_at hl 0 rfl) ?_
        refine lv_ifnonnullN hx hb dX10_about_30 ?_
        refine lv_ldc hx hb (v := (-2000000002)) hown (hts (.constant RX10 176 (-2000000002)) (by decide +kernel)) dX10_about_33 ?_
        refine lv_goto (tgt := 43) hx hb dX10_about_35 (by decide) ?_
        exact W.iret (v := (-2000000002)) hx hb hr (fun t ht _ => ⟨(-2000000002), rfl, by subst er13; subst er1; first | (simp only [q_X10_about, if_neg c4, if_neg c16, ho27]; done) | contradiction, ht⟩) (fun _ h => nomatch h) dX10_about_43
      · have hL27 : a27 ∈ S.2.2.1 := hT _ _ (isP_lt (isPc_of er1 c4)) ho27
        refine lv_astore_n (lv' := [(3, .ref (a27)), (0, .ref (eC E 0)), (1, .int (p1)), (2, .int (p2))]) hx hb dX10_about_28 rfl hl (by decide) rfl (fun ls hl => ?_)
        refine lv_aload_n hx hb dX10_about_29 rfl (lv_at hl 0 rfl) ?_
        refine lv_ifnonnull (tgt := 38) hx hb dX10_about_30 (by decide) ?_
        refine lv_aload_n hx hb dX10_about_38 rfl (lv_at hl 0 rfl) ?_
        refine lv_iload_n hx hb dX10_about_39 rfl (lv_at hl 3 rfl) ?_
        by_cases hK40 : S.2.2.2.1 a27 = 1
        · obtain ⟨k40, hk40⟩ := wJ_d E M (S := S) hL27 hK40
          refine k_Si (va_runU (As := [.int (p2)]) (rest := []) ⟨hx, hb, hml, hown, hts⟩ (c_X1_property l E M S a27 p2 hL27 hK40) (va_cwA 1 hts gX10_about_X1_property_u212X1 rfl rfl rfl (hE.2.2.1 (.declares ⟨"DialGarden$Thing", "property", "(I)I"⟩) (by decide +kernel)) (by decide +kernel) ⟨Nat.le_of_ble_eq_true rfl, Nat.le_of_ble_eq_true rfl⟩) (gP.V (ci := 1) (q := (RX1, TX1, 7)) hE hS hW rfl hk40) rfl rfl hl.1 rfl (lv_room (Nat.le_of_ble_eq_true rfl)) dX10_about_40 ⟨Nat.le_of_ble_eq_true rfl, Nat.le_of_ble_eq_true rfl⟩) (fun r40 er40 => ?_)
          exact W.iret (v := r40) hx hb hr (fun t ht _ => ⟨r40, rfl, by subst er40; subst er13; subst er1; first | (simp only [q_X10_about, if_neg c4, if_neg c16, if_pos hK40, ho27]; done) | contradiction, ht⟩) (fun _ h => nomatch h) dX10_about_43
        · obtain ⟨k40, hk40⟩ := wJ_h E M (S := S) hL27 hK40
          refine k_Si (va_runU (As := [.int (p2)]) (rest := []) ⟨hx, hb, hml, hown, hts⟩ (c_X2_property l E M S a27 p2 hL27 hK40) (va_cwA 1 hts gX10_about_X2_property_u212X2 rfl rfl rfl (hE.2.2.1 (.declares ⟨"DialGarden$Thing", "property", "(I)I"⟩) (by decide +kernel)) (by decide +kernel) ⟨Nat.le_of_ble_eq_true rfl, Nat.le_of_ble_eq_true rfl⟩) (gP.V (ci := 2) (q := (RX2, TX2, 5)) hE hS hW rfl hk40) rfl rfl hl.1 rfl (lv_room (Nat.le_of_ble_eq_true rfl)) dX10_about_40 ⟨Nat.le_of_ble_eq_true rfl, Nat.le_of_ble_eq_true rfl⟩) (fun r40 er40 => ?_)
          exact W.iret (v := r40) hx hb hr (fun t ht _ => ⟨r40, rfl, by subst er40; subst er13; subst er1; first | (simp only [q_X10_about, if_neg c4, if_neg c16, if_neg hK40, ho27]; done) | contradiction, ht⟩) (fun _ h => nomatch h) dX10_about_43
    · refine lv_ldc hx hb (v := (-2000000001)) hown (hts (.constant RX10 86 (-2000000001)) (by decide +kernel)) dX10_about_19 ?_
      exact W.iret (v := (-2000000001)) hx hb hr (fun t ht _ => ⟨(-2000000001), rfl, by subst er13; subst er1; first | (simp only [q_X10_about, if_neg c4, if_pos c16]; done) | contradiction, ht⟩) (fun _ h => nomatch h) dX10_about_21

def q_X10_undo (S : gSc)  : Int32 × gSc := (if (S.1 4 3) = 0 then ((-2000000002), S) else (let r17 := q_X0_latestPlace S; (match q_X0_latestThing S with | none => (let S38 := q_X0_takeBack (sR S 3 (va_up (S.2.1 3) (r17.toNatClampNeg) none)); (r17, S38)) | some a30 => (let S38 := q_X0_takeBack (sR S 3 (va_up (S.2.1 3) (r17.toNatClampNeg) (some a30))); (r17, S38)))))
set_option maxHeartbeats 4000000 in
set_option maxRecDepth 100000 in
theorem c_X10_undo (l : Launch) (E : gEE) (M : gSm) (S : gSc)  (hl0 : 0 ≤ (S.1 4 2).toInt) (hl1 : (S.1 4 2).toInt < 16) (hcp : ∀ j, j < 16 → isP (S.1 5 j)) (hC : okR S 6 16) : Met l yX10_undo wsX10_undo ({ frames := 2, cells := 0, slots := 0, locals := 42 }) (va_Pc [.ref (eC E 0)] (gP E M S)) (va_Qi (fun r (u : gSc) => (r, u) = q_X10_undo S) (fun u t => gW E M u t.heap) (eA E)) 0 0 (eA E) := by
  refine Met.ofW (cc := cX10_undo) (maxL := 2) (ret := (some .int)) (by decide) rfl ?_
  intro p e s m args below meth c s₁ B hml hv
  obtain ⟨rfl, hE, hW⟩ := hv
  have hx := B.exec
  have hb := B.bytes
  have hr := B.returns
  have hts := atoms_spec (ws := wsX10_undo) B.pre
  have hown : s.vm.findClass RX10 = some m.cls := findClass_of_methodNamed B.named
  have hlocks := B.notSynchronized
  have hinX0 : ∀ w ∈ wsX00, w ∈ wsX10_undo := by decide +kernel
  have hinX10 : ∀ w ∈ wsX100, w ∈ wsX10_undo := by decide +kernel
  have hS : va_S (eA E) s.heap s.heap [] := va_S.rf
  have hl := lv_entry ([.ref (eC E 0)]) (n := 2) (Nat.le_of_ble_eq_true rfl)
  rw [lg_entry_eq]
  generalize (lg_sl ([.ref (eC E 0)]) ++ List.replicate (2 - (lg_sl ([.ref (eC E 0)])).length) Slot.unset).toArray = ls at hl ⊢
  have hl : lv_has ls 2 [(0, .ref (eC E 0))] := hl
  have hS : ∃ (H : Heap) (locs : List Loc), H = s.heap ∧ locs = [] ∧ gW E M S H ∧ va_S (eA E) s.heap H locs := ⟨_, _, rfl, rfl, hW, hS⟩
  clear hW
  obtain ⟨H, locs, eH, el, hW, hS⟩ := hS
  rw [← eH, ← el]
  clear eH el
  refine lv_aload_n hx hb dX10_undo_0 rfl (lv_at hl 0 rfl) ?_
  refine va_get (D := eD E) (cl := vwCl) (tys := eT E) (ci := 9) (C := RX10) (T := TX10) (N := 12) (v := .ref (eC E 4)) hx hb hts hinX10 hown hE.1 hW.1 11 rfl rfl 2 (by decide) (hts (.fieldLink RX10 25 "DialGarden" "changes" "LDialGarden$Changes;") (by decide +kernel)) (fun _ h9 => h9) rfl dX10_undo_1 ?_
  refine va_getN (D := eD E) (cl := vwCl) (tys := eT E) (ci := 0) (C := RX0) (T := TX0) (N := 4) (v := .int (S.1 4 3)) hx hb hts hinX0 hown hE.1 hW.1 15 rfl rfl 3 (by decide) (va_Nw.use rfl (hE.2.2.1 (.fieldLinkNest "DialGarden" 215 "DialGarden$Changes" "kept" "I" "DialGarden") (by decide +kernel))) (fun _ h9 => h9) rfl dX10_undo_4 ?_
  refine lv_if_ne (tgt := 13) hx hb dX10_undo_7 (by decide) (fun c7 => ?_) (fun c7 => ?_)
  · refine lv_aload_n hx hb dX10_undo_13 rfl (lv_at hl 0 rfl) ?_
    refine va_get (D := eD E) (cl := vwCl) (tys := eT E) (ci := 9) (C := RX10) (T := TX10) (N := 12) (v := .ref (eC E 4)) hx hb hts hinX10 hown hE.1 hW.1 11 rfl rfl 2 (by decide) (hts (.fieldLink RX10 25 "DialGarden" "changes" "LDialGarden$Changes;") (by decide +kernel)) (fun _ h9 => h9) rfl dX10_undo_14 ?_
    refine k_Si (va_runV (As := []) (rest := []) ⟨hx, hb, hml, hown, hts⟩ (c_X0_latestPlace l E M S hl0 hl1) (cwV 0 hts gX10_undo_X0_latestPlace rfl rfl rfl (by decide +kernel) ⟨Nat.le_of_ble_eq_true rfl, Nat.le_of_ble_eq_true rfl⟩) (gP.V (ci := 0) (q := (RX0, TX0, 4)) (q0 := 15) hE hS hW rfl rfl) rfl rfl hl.1 rfl (lv_room (Nat.le_of_ble_eq_true rfl)) dX10_undo_17 ⟨Nat.le_of_ble_eq_true rfl, Nat.le_of_ble_eq_true rfl⟩) (fun r17 er17 => ?_)
    refine lv_istore_n (lv' := [(1, .int (r17)), (0, .ref (eC E 0))]) hx hb dX10_undo_20 rfl hl (by decide) rfl (fun ls hl => ?_)
    refine lv_aload_n hx hb dX10_undo_21 rfl (lv_at hl 1 rfl) ?_
    refine va_get (D := eD E) (cl := vwCl) (tys := eT E) (ci := 9) (C := RX10) (T := TX10) (N := 12) (v := .ref (eC E 3)) hx hb hts hinX10 hown hE.1 hW.1 11 rfl rfl 1 (by decide) (hts (.fieldLink RX10 18 "DialGarden" "things" "[LDialGarden$Thing;") (by decide +kernel)) (fun _ h9 => h9) rfl dX10_undo_22 ?_
    refine lv_iload_n hx hb dX10_undo_25 rfl (lv_at hl 0 rfl) ?_
    refine lv_aload_n hx hb dX10_undo_26 rfl (lv_at hl 1 rfl) ?_
    refine va_get (D := eD E) (cl := vwCl) (tys := eT E) (ci := 9) (C := RX10) (T := TX10) (N := 12) (v := .ref (eC E 4)) hx hb hts hinX10 hown hE.1 hW.1 11 rfl rfl 2 (by decide) (hts (.fieldLink RX10 25 "DialGarden" "changes" "LDialGarden$Changes;") (by decide +kernel)) (fun _ h9 => h9) rfl dX10_undo_27 ?_
    refine k_Sq (va_runV (As := []) (rest := [.int (r17), .ref (eC E 3)]) ⟨hx, hb, hml, hown, hts⟩ (c_X0_latestThing l E M S hl0 hl1) (cwV 0 hts gX10_undo_X0_latestThing rfl rfl rfl (by decide +kernel) ⟨Nat.le_of_ble_eq_true rfl, Nat.le_of_ble_eq_true rfl⟩) (gP.V (ci := 0) (q := (RX0, TX0, 4)) (q0 := 15) hE hS hW rfl rfl) rfl rfl hl.1 rfl (lv_room (Nat.le_of_ble_eq_true rfl)) dX10_undo_30 ⟨Nat.le_of_ble_eq_true rfl, Nat.le_of_ble_eq_true rfl⟩) (fun r30 er30 => ?_)
    rcases r30 with _ | a30
    · refine va_astqN (D := eD E) (cl := vwCl) (tys := eT E) (A := eA E) (f := S.2.1 3) hx hb hE.1 hW.1 hW.2 hS 14 4 rfl rfl (un_in er17 hl0 hl1 hcp) dX10_undo_33 (fun H locs hP hD hS => ?_)
      have hW : gW E M (sR S 3 (va_up (S.2.1 3) (r17.toNatClampNeg) none)) H := gW.of (tC_R3 E M S (va_up (S.2.1 3) (r17.toNatClampNeg) none)) hP hD
      refine lv_aload_n hx hb dX10_undo_34 rfl (lv_at hl 1 rfl) ?_
      refine va_get (D := eD E) (cl := vwCl) (tys := eT E) (ci := 9) (C := RX10) (T := TX10) (N := 12) (v := .ref (eC E 4)) hx hb hts hinX10 hown hE.1 hW.1 11 rfl rfl 2 (by decide) (hts (.fieldLink RX10 25 "DialGarden" "changes" "LDialGarden$Changes;") (by decide +kernel)) (fun _ h9 => h9) rfl dX10_undo_35 ?_
      refine va_callv (va_runV (As := []) (rest := []) ⟨hx, hb, hml, hown, hts⟩ (c_X0_takeBack l E M (sR S 3 (va_up (S.2.1 3) (r17.toNatClampNeg) none)) hl0 hl1) (cwV 0 hts gX10_undo_X0_takeBack rfl rfl rfl (by decide +kernel) ⟨Nat.le_of_ble_eq_true rfl, Nat.le_of_ble_eq_true rfl⟩) (gP.V (ci := 0) (q := (RX0, TX0, 4)) (q0 := 15) hE hS hW rfl rfl) rfl rfl hl.1 rfl (lv_room (Nat.le_of_ble_eq_true rfl)) dX10_undo_38 ⟨Nat.le_of_ble_eq_true rfl, Nat.le_of_ble_eq_true rfl⟩) hS (fun _ _ h => h) (fun _ h => h) (fun S38 t H locs ht hvm hw hB hz1 hk1 hS => ?_)
      have eS38 : S38 = q_X0_takeBack (sR S 3 (va_up (S.2.1 3) (r17.toNatClampNeg) none)) := hw
      clear hw
      have hW : gW E M S38 H := by rw [← ht]; exact hB
      have hpS38 : S38.2.2 = S.2.2 := by rw [eS38]; exact (qp_X0_takeBack _)
      refine lv_iload_n hx hb dX10_undo_41 rfl (lv_at hl 0 rfl) ?_
      exact W.iret (v := r17) hx hb hr (fun t ht _ => ⟨⟨r17, S38, rfl, by subst eS38; subst er17; first | (simp only [q_X10_undo, if_neg c7, ← er30]; done) | contradiction, by dsimp only; rw [ht]; exact hW⟩, hS.F ht⟩) hS.2.2 dX10_undo_42
    · have hL30 : a30 ∈ S.2.2.1 := lth_of hC hl0 hl1 er30
      by_cases hK33 : S.2.2.2.1 a30 = 1
      · obtain ⟨k33, hk33⟩ := wJ_d E M (S := S) hL30 hK33
        refine va_astqO (D := eD E) (cl := vwCl) (tys := eT E) (A := eA E) (f := S.2.1 3) (r := (RX1, TX1, 7)) (E := "DialGarden$Thing") hx hb hE.1 hW.1 hW.2 hS 14 4 k33 1 rfl rfl (hE.2.2.1 (.castable "DialGarden$Dial" "DialGarden$Thing") (by decide +kernel)) hk33 rfl (un_in er17 hl0 hl1 hcp) dX10_undo_33 (fun H locs hP hD hS => ?_)
        have hW : gW E M (sR S 3 (va_up (S.2.1 3) (r17.toNatClampNeg) (some a30))) H := gW.of (tC_R3 E M S (va_up (S.2.1 3) (r17.toNatClampNeg) (some a30))) hP hD
        refine lv_aload_n hx hb dX10_undo_34 rfl (lv_at hl 1 rfl) ?_
        refine va_get (D := eD E) (cl := vwCl) (tys := eT E) (ci := 9) (C := RX10) (T := TX10) (N := 12) (v := .ref (eC E 4)) hx hb hts hinX10 hown hE.1 hW.1 11 rfl rfl 2 (by decide) (hts (.fieldLink RX10 25 "DialGarden" "changes" "LDialGarden$Changes;") (by decide +kernel)) (fun _ h9 => h9) rfl dX10_undo_35 ?_
        refine va_callv (va_runV (As := []) (rest := []) ⟨hx, hb, hml, hown, hts⟩ (c_X0_takeBack l E M (sR S 3 (va_up (S.2.1 3) (r17.toNatClampNeg) (some a30))) hl0 hl1) (cwV 0 hts gX10_undo_X0_takeBack rfl rfl rfl (by decide +kernel) ⟨Nat.le_of_ble_eq_true rfl, Nat.le_of_ble_eq_true rfl⟩) (gP.V (ci := 0) (q := (RX0, TX0, 4)) (q0 := 15) hE hS hW rfl rfl) rfl rfl hl.1 rfl (lv_room (Nat.le_of_ble_eq_true rfl)) dX10_undo_38 ⟨Nat.le_of_ble_eq_true rfl, Nat.le_of_ble_eq_true rfl⟩) hS (fun _ _ h => h) (fun _ h => h) (fun S38 t H locs ht hvm hw hB hz1 hk1 hS => ?_)
        have eS38 : S38 = q_X0_takeBack (sR S 3 (va_up (S.2.1 3) (r17.toNatClampNeg) (some a30))) := hw
        clear hw
        have hW : gW E M S38 H := by rw [← ht]; exact hB
        have hpS38 : S38.2.2 = S.2.2 := by rw [eS38]; exact (qp_X0_takeBack _)
        refine lv_iload_n hx hb dX10_undo_41 rfl (lv_at hl 0 rfl) ?_
        exact W.iret (v := r17) hx hb hr (fun t ht _ => ⟨⟨r17, S38, rfl, by subst eS38; subst er17; first | (simp only [q_X10_undo, if_neg c7, ← er30]; done) | contradiction, by dsimp only; rw [ht]; exact hW⟩, hS.F ht⟩) hS.2.2 dX10_undo_42
      · obtain ⟨k33, hk33⟩ := wJ_h E M (S := S) hL30 hK33
        refine va_astqO (D := eD E) (cl := vwCl) (tys := eT E) (A := eA E) (f := S.2.1 3) (r := (RX2, TX2, 5)) (E := "DialGarden$Thing") hx hb hE.1 hW.1 hW.2 hS 14 4 k33 2 rfl rfl (hE.2.2.1 (.castable "DialGarden$House" "DialGarden$Thing") (by decide +kernel)) hk33 rfl (un_in er17 hl0 hl1 hcp) dX10_undo_33 (fun H locs hP hD hS => ?_)
        have hW : gW E M (sR S 3 (va_up (S.2.1 3) (r17.toNatClampNeg) (some a30))) H := gW.of (tC_R3 E M S (va_up (S.2.1 3) (r17.toNatClampNeg) (some a30))) hP hD
        refine lv_aload_n hx hb dX10_undo_34 rfl (lv_at hl 1 rfl) ?_
        refine va_get (D := eD E) (cl := vwCl) (tys := eT E) (ci := 9) (C := RX10) (T := TX10) (N := 12) (v := .ref (eC E 4)) hx hb hts hinX10 hown hE.1 hW.1 11 rfl rfl 2 (by decide) (hts (.fieldLink RX10 25 "DialGarden" "changes" "LDialGarden$Changes;") (by decide +kernel)) (fun _ h9 => h9) rfl dX10_undo_35 ?_
        refine va_callv (va_runV (As := []) (rest := []) ⟨hx, hb, hml, hown, hts⟩ (c_X0_takeBack l E M (sR S 3 (va_up (S.2.1 3) (r17.toNatClampNeg) (some a30))) hl0 hl1) (cwV 0 hts gX10_undo_X0_takeBack rfl rfl rfl (by decide +kernel) ⟨Nat.le_of_ble_eq_true rfl, Nat.le_of_ble_eq_true rfl⟩) (gP.V (ci := 0) (q := (RX0, TX0, 4)) (q0 := 15) hE hS hW rfl rfl) rfl rfl hl.1 rfl (lv_room (Nat.le_of_ble_eq_true rfl)) dX10_undo_38 ⟨Nat.le_of_ble_eq_true rfl, Nat.le_of_ble_eq_true rfl⟩) hS (fun _ _ h => h) (fun _ h => h) (fun S38 t H locs ht hvm hw hB hz1 hk1 hS => ?_)
        have eS38 : S38 = q_X0_takeBack (sR S 3 (va_up (S.2.1 3) (r17.toNatClampNeg) (some a30))) := hw
        clear hw
        have hW : gW E M S38 H := by rw [← ht]; exact hB
        have hpS38 : S38.2.2 = S.2.2 := by rw [eS38]; exact (qp_X0_takeBack _)
        refine lv_iload_n hx hb dX10_undo_41 rfl (lv_at hl 0 rfl) ?_
        exact W.iret (v := r17) hx hb hr (fun t ht _ => ⟨⟨r17, S38, rfl, by subst eS38; subst er17; first | (simp only [q_X10_undo, if_neg c7, ← er30]; done) | contradiction, by dsimp only; rw [ht]; exact hW⟩, hS.F ht⟩) hS.2.2 dX10_undo_42
  · refine lv_ldc hx hb (v := (-2000000002)) hown (hts (.constant RX10 176 (-2000000002)) (by decide +kernel)) dX10_undo_10 ?_
    exact W.iret (v := (-2000000002)) hx hb hr (fun t ht _ => ⟨⟨(-2000000002), S, rfl, by first | (simp only [q_X10_undo, if_pos c7]; done) | contradiction, by dsimp only; rw [ht]; exact hW⟩, hS.F ht⟩) hS.2.2 dX10_undo_12
