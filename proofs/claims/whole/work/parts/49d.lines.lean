def q_X10_stretches (S : gSc) (p1 : Int32) (p2 : Int32) : Int32 × gSc := (let r1 := q_X10_isPlace p1; (if r1 = 0 then ((-2000000001), S) else (let r8 := q_X10_isDay p2; (if r8 = 0 then ((-2000000001), S) else (match q_X10_dialAt S p1 0 with | none => ((-2000000002), S) | some a20 => (let r38 := (q_X10_followStretches S a20 p2 (-2000000005)).1; let S38 := (q_X10_followStretches S a20 p2 (-2000000005)).2; (r38, S38)))))))
set_option maxHeartbeats 4000000 in
set_option maxRecDepth 100000 in
theorem c_X10_stretches (l : Launch) (E : gEE) (M : gSm) (S : gSc) (p1 : Int32) (p2 : Int32) (hT : okR S 3 40) (hH : okH S) (hkn0 : 0 ≤ (S.1 1 1).toInt) (hkn : (S.1 1 1).toInt ≤ 366) : Met l yX10_stretches wsX10_stretches ({ frames := 6, cells := 0, slots := 0, locals := 141 }) (va_Pc [.ref (eC E 0), .int (p1), .int (p2)] (gP E M S)) (va_Qi (fun r (u : gSc) => (r, u) = q_X10_stretches S p1 p2) (fun u t => gW E M u t.heap) (eA E)) 0 0 (eA E) := by
  refine Met.ofW (cc := cX10_stretches) (maxL := 4) (ret := (some .int)) (by decide) rfl ?_
  intro p e s m args below meth c s₁ B hml hv
  obtain ⟨rfl, hE, hW⟩ := hv
  have hx := B.exec
  have hb := B.bytes
  have hr := B.returns
  have hts := atoms_spec (ws := wsX10_stretches) B.pre
  have hown : s.vm.findClass RX10 = some m.cls := findClass_of_methodNamed B.named
  have hlocks := B.notSynchronized
  have hS : va_S (eA E) s.heap s.heap [] := va_S.rf
  have hl := lv_entry ([.ref (eC E 0), .int (p1), .int (p2)]) (n := 4) (Nat.le_of_ble_eq_true rfl)
  rw [lg_entry_eq]
  generalize (lg_sl ([.ref (eC E 0), .int (p1), .int (p2)]) ++ List.replicate (4 - (lg_sl ([.ref (eC E 0), .int (p1), .int (p2)])).length) Slot.unset).toArray = ls at hl ⊢
  have hl : lv_has ls 4 [(0, .ref (eC E 0)), (1, .int (p1)), (2, .int (p2))] := hl
  have hS : ∃ (H : Heap) (locs : List Loc), H = s.heap ∧ locs = [] ∧ gW E M S H ∧ va_S (eA E) s.heap H locs := ⟨_, _, rfl, rfl, hW, hS⟩
  clear hW
  obtain ⟨H, locs, eH, el, hW, hS⟩ := hS
  rw [← eH, ← el]
  clear eH el
  refine lv_iload_n hx hb dX10_stretches_0 rfl (lv_at hl 1 rfl) ?_
  refine k_Si (va_runS (As := [.int (p1)]) (rest := []) ⟨hx, hb, hml, hown, hts⟩ (c_X10_isPlace l p1) (va_cwS 1 hts gX10_stretches_X10_isPlace rfl rfl rfl (by decide +kernel) ⟨Nat.le_of_ble_eq_true rfl, Nat.le_of_ble_eq_true rfl⟩) gP0 rfl rfl hl.1 rfl (lv_room (Nat.le_of_ble_eq_true rfl)) dX10_stretches_1 ⟨Nat.le_of_ble_eq_true rfl, Nat.le_of_ble_eq_true rfl⟩) (fun r1 er1 => ?_)
  refine lv_if_eq (tgt := 14) hx hb dX10_stretches_4 (by decide) (fun c4 => ?_) (fun c4 => ?_)
  · refine lv_ldc hx hb (v := (-2000000001)) hown (hts (.constant RX10 86 (-2000000001)) (by decide +kernel)) dX10_stretches_14 ?_
    exact W.iret (v := (-2000000001)) hx hb hr (fun t ht _ => ⟨⟨(-2000000001), S, rfl, by subst er1; first | (simp only [q_X10_stretches, if_pos c4]; done) | contradiction, by dsimp only; rw [ht]; exact hW⟩, hS.F ht⟩) hS.2.2 dX10_stretches_16
  · refine lv_iload_n hx hb dX10_stretches_7 rfl (lv_at hl 2 rfl) ?_
    refine k_Si (va_runS (As := [.int (p2)]) (rest := []) ⟨hx, hb, hml, hown, hts⟩ (c_X10_isDay l p2) (va_cwS 1 hts gX10_stretches_X10_isDay rfl rfl rfl (by decide +kernel) ⟨Nat.le_of_ble_eq_true rfl, Nat.le_of_ble_eq_true rfl⟩) gP0 rfl rfl hl.1 rfl (lv_room (Nat.le_of_ble_eq_true rfl)) dX10_stretches_8 ⟨Nat.le_of_ble_eq_true rfl, Nat.le_of_ble_eq_true rfl⟩) (fun r8 er8 => ?_)
    refine lv_if_ne (tgt := 17) hx hb dX10_stretches_11 (by decide) (fun c11 => ?_) (fun c11 => ?_)
    · refine lv_aload_n hx hb dX10_stretches_17 rfl (lv_at hl 0 rfl) ?_
      refine lv_iload_n hx hb dX10_stretches_18 rfl (lv_at hl 1 rfl) ?_
      refine lv_iconst (v := 0) hx hb dX10_stretches_19 (by decide) ?_
      refine k_Sq (va_runV (As := [.int (p1), .int (0)]) (rest := []) ⟨hx, hb, hml, hown, hts⟩ (c_X10_dialAt l E M S p1 0 hT) (cwV 2 hts gX10_stretches_X10_dialAt rfl rfl rfl (by decide +kernel) ⟨Nat.le_of_ble_eq_true rfl, Nat.le_of_ble_eq_true rfl⟩) (gP.V (ci := 9) (q := (RX10, TX10, 12)) (q0 := 11) hE hS hW rfl rfl) rfl rfl hl.1 rfl (lv_room (Nat.le_of_ble_eq_true rfl)) dX10_stretches_20 ⟨Nat.le_of_ble_eq_true rfl, Nat.le_of_ble_eq_true rfl⟩) (fun r20 er20 => ?_)
      rcases r20 with _ | a20
      · refine lv_astore_nN (lv' := [(3, .null), (0, .ref (eC E 0)), (1, .int (p1)), (2, .int (p2))]) hx hb dX10_stretches_23 rfl hl (by decide) rfl (fun ls hl => ?_)
        refine lv_aload_nN hx hb dX10_stretches_24 rfl (lv_at hl 0 rfl) ?_
        refine lv_ifnonnullN hx hb dX10_stretches_25 ?_
        refine lv_ldc hx hb (v := (-2000000002)) hown (hts (.constant RX10 176 (-2000000002)) (by decide +kernel)) dX10_stretches_28 ?_
        refine lv_goto (tgt := 41) hx hb dX10_stretches_30 (by decide) ?_
        exact W.iret (v := (-2000000002)) hx hb hr (fun t ht _ => ⟨⟨(-2000000002), S, rfl, by subst er8; subst er1; first | (simp only [q_X10_stretches, if_neg c4, if_neg c11, ← er20]; done) | contradiction, by dsimp only; rw [ht]; exact hW⟩, hS.F ht⟩) hS.2.2 dX10_stretches_41
      · have hL20 := (da_of hT er20).1
        have hK20 := (da_of hT er20).2
        refine lv_astore_n (lv' := [(3, .ref (a20)), (0, .ref (eC E 0)), (1, .int (p1)), (2, .int (p2))]) hx hb dX10_stretches_23 rfl hl (by decide) rfl (fun ls hl => ?_)
        refine lv_aload_n hx hb dX10_stretches_24 rfl (lv_at hl 0 rfl) ?_
        refine lv_ifnonnull (tgt := 33) hx hb dX10_stretches_25 (by decide) ?_
        refine lv_aload_n hx hb dX10_stretches_33 rfl (lv_at hl 1 rfl) ?_
        refine lv_aload_n hx hb dX10_stretches_34 rfl (lv_at hl 0 rfl) ?_
        refine lv_iload_n hx hb dX10_stretches_35 rfl (lv_at hl 3 rfl) ?_
        refine lv_ldc hx hb (v := (-2000000005)) hown (hts (.constant RX10 235 (-2000000005)) (by decide +kernel)) dX10_stretches_36 ?_
        refine va_calli (va_runV (As := [.ref (a20), .int (p2), .int ((-2000000005))]) (rest := []) ⟨hx, hb, hml, hown, hts⟩ (c_X10_followStretches l E M S a20 p2 (-2000000005) hL20 hK20 hT hH hkn0 hkn) (cwV 3 hts gX10_stretches_X10_followStretches rfl rfl rfl (by decide +kernel) ⟨Nat.le_of_ble_eq_true rfl, Nat.le_of_ble_eq_true rfl⟩) (gP.V (ci := 9) (q := (RX10, TX10, 12)) (q0 := 11) hE hS hW rfl rfl) rfl rfl hl.1 rfl (lv_room (Nat.le_of_ble_eq_true rfl)) dX10_stretches_38 ⟨Nat.le_of_ble_eq_true rfl, Nat.le_of_ble_eq_true rfl⟩) hS (fun _ _ h => h) (fun _ h => h) (fun r38 S38 t H locs ht hvm hw hB hzz hkk hS => ?_)
        obtain ⟨er38, eS38⟩ := prj hw
        clear hw
        have hW : gW E M S38 H := by rw [← ht]; exact hB
        exact W.iret (v := r38) hx hb hr (fun t ht _ => ⟨⟨r38, S38, rfl, by subst er8; subst er1; first | (simp only [q_X10_stretches, if_neg c4, if_neg c11, ← er20, ← er38, ← eS38]; done) | contradiction, by dsimp only; rw [ht]; exact hW⟩, hS.F ht⟩) hS.2.2 dX10_stretches_41
    · refine lv_ldc hx hb (v := (-2000000001)) hown (hts (.constant RX10 86 (-2000000001)) (by decide +kernel)) dX10_stretches_14 ?_
      exact W.iret (v := (-2000000001)) hx hb hr (fun t ht _ => ⟨⟨(-2000000001), S, rfl, by subst er8; subst er1; first | (simp only [q_X10_stretches, if_neg c4, if_pos c11]; done) | contradiction, by dsimp only; rw [ht]; exact hW⟩, hS.F ht⟩) hS.2.2 dX10_stretches_16
