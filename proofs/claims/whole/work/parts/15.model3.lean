def q_X11_state (M : gSm) (p1 : Int32) (p2 : Int32) (p3 : Int32) : Int32 × gSm := (let r4 := q_X11_ask M p1 p2 p3; (if 0 ≤ r4 then (let r23 := (q_X11_stateNow M p1 p2 p3).1; let M23 := (q_X11_stateNow M p1 p2 p3).2; (r23, M23)) else (r4, M)))
set_option maxHeartbeats 4000000 in
set_option maxRecDepth 100000 in
theorem c_X11_state (l : Launch) (E : gEE) (M : gSm) (S : gSc) (p1 : Int32) (p2 : Int32) (p3 : Int32) (hc : (M.1 0 6).toInt ≤ 366) : Met l yX11_state wsX11_state ({ frames := 6, cells := 0, slots := 0, locals := 156 }) (va_Pc [.ref (eM E 0), .int (p1), .int (p2), .int (p3)] (gP E M S)) (va_Qi (fun r (u : gSm) => (r, u) = q_X11_state M p1 p2 p3) (fun u t => gW E u S t.heap) (eA E)) 0 0 (eA E) := by
  refine Met.ofW (cc := cX11_state) (maxL := 5) (ret := (some .int)) (by decide) rfl ?_
  intro p e s m args below meth c s₁ B hml hv
  obtain ⟨rfl, hE, hW⟩ := hv
  have hx := B.exec
  have hb := B.bytes
  have hr := B.returns
  have hts := atoms_spec (ws := wsX11_state) B.pre
  have hown : s.vm.findClass RX11 = some m.cls := findClass_of_methodNamed B.named
  have hlocks := B.notSynchronized
  have hS : va_S (eA E) s.heap s.heap [] := va_S.rf
  have hl := lv_entry ([.ref (eM E 0), .int (p1), .int (p2), .int (p3)]) (n := 5) (Nat.le_of_ble_eq_true rfl)
  rw [lg_entry_eq]
  generalize (lg_sl ([.ref (eM E 0), .int (p1), .int (p2), .int (p3)]) ++ List.replicate (5 - (lg_sl ([.ref (eM E 0), .int (p1), .int (p2), .int (p3)])).length) Slot.unset).toArray = ls at hl ⊢
  have hl : lv_has ls 5 [(0, .ref (eM E 0)), (1, .int (p1)), (2, .int (p2)), (3, .int (p3))] := hl
  have hS : ∃ (H : Heap) (locs : List Loc), H = s.heap ∧ locs = [] ∧ gW E M S H ∧ va_S (eA E) s.heap H locs := ⟨_, _, rfl, rfl, hW, hS⟩
  clear hW
  obtain ⟨H, locs, eH, el, hW, hS⟩ := hS
  rw [← eH, ← el]
  clear eH el
  refine lv_aload_n hx hb dX11_state_0 rfl (lv_at hl 0 rfl) ?_
  refine lv_iload_n hx hb dX11_state_1 rfl (lv_at hl 1 rfl) ?_
  refine lv_iload_n hx hb dX11_state_2 rfl (lv_at hl 2 rfl) ?_
  refine lv_iload_n hx hb dX11_state_3 rfl (lv_at hl 3 rfl) ?_
  refine k_Si (va_runV (As := [.int (p1), .int (p2), .int (p3)]) (rest := []) ⟨hx, hb, hml, hown, hts⟩ (c_X11_ask l E M S p1 p2 p3) (cwV 3 hts gX11_state_X11_ask rfl rfl rfl (by decide +kernel) ⟨Nat.le_of_ble_eq_true rfl, Nat.le_of_ble_eq_true rfl⟩) (gP.V (ci := 10) (q := (RX11, TX11, 23)) (q0 := 0) hE hS hW rfl rfl) rfl rfl hl.1 rfl (lv_room (Nat.le_of_ble_eq_true rfl)) dX11_state_4 ⟨Nat.le_of_ble_eq_true rfl, Nat.le_of_ble_eq_true rfl⟩) (fun r4 er4 => ?_)
  refine lv_istore (lv' := [(4, .int (r4)), (0, .ref (eM E 0)), (1, .int (p1)), (2, .int (p2)), (3, .int (p3))]) hx hb dX11_state_7 hl (by decide) rfl (fun ls hl => ?_)
  refine lv_iload hx hb dX11_state_9 (lv_at hl 0 rfl) ?_
  refine lv_if_ge (tgt := 19) hx hb dX11_state_11 (by decide) (fun c11 => ?_) (fun c11 => ?_)
  · refine lv_aload_n hx hb dX11_state_19 rfl (lv_at hl 1 rfl) ?_
    refine lv_iload_n hx hb dX11_state_20 rfl (lv_at hl 2 rfl) ?_
    refine lv_iload_n hx hb dX11_state_21 rfl (lv_at hl 3 rfl) ?_
    refine lv_iload_n hx hb dX11_state_22 rfl (lv_at hl 4 rfl) ?_
    refine va_calli (va_runV (As := [.int (p1), .int (p2), .int (p3)]) (rest := []) ⟨hx, hb, hml, hown, hts⟩ (c_X11_stateNow l E M S p1 p2 p3 (askm_of er4 c11).1 (askm_of er4 c11).2.1.1 hc) (cwV 3 hts gX11_state_X11_stateNow rfl rfl rfl (by decide +kernel) ⟨Nat.le_of_ble_eq_true rfl, Nat.le_of_ble_eq_true rfl⟩) (gP.V (ci := 10) (q := (RX11, TX11, 23)) (q0 := 0) hE hS hW rfl rfl) rfl rfl hl.1 rfl (lv_room (Nat.le_of_ble_eq_true rfl)) dX11_state_23 ⟨Nat.le_of_ble_eq_true rfl, Nat.le_of_ble_eq_true rfl⟩) hS (fun _ _ h => h) (fun _ h => h) (fun r23 M23 t H locs ht hvm hw hB hz1 hk1 hS => ?_)
    obtain ⟨er23, eM23⟩ := prj hw
    clear hw
    have hW : gW E M23 S H := by rw [← ht]; exact hB
    exact W.iret (v := r23) hx hb hr (fun t ht _ => ⟨⟨r23, M23, rfl, by subst eM23; subst er23; subst er4; first | (simp only [q_X11_state, if_pos c11]; done) | contradiction, by dsimp only; rw [ht]; exact hW⟩, hS.F ht⟩) hS.2.2 dX11_state_26
  · refine lv_iload hx hb dX11_state_14 (lv_at hl 0 rfl) ?_
    refine lv_goto (tgt := 26) hx hb dX11_state_16 (by decide) ?_
    exact W.iret (v := r4) hx hb hr (fun t ht _ => ⟨⟨r4, M, rfl, by subst er4; first | (simp only [q_X11_state, if_neg c11]; done) | contradiction, by dsimp only; rw [ht]; exact hW⟩, hS.F ht⟩) hS.2.2 dX11_state_26

def q_X11_hides (M : gSm) (p1 : Int32) (p2 : Int32) (p3 : Int32) : Int32 × gSm := (let r4 := q_X11_ask M p1 p2 p3; (if 0 ≤ r4 then (let r23 := (q_X11_stateNow M p1 p2 p3).1; let M23 := (q_X11_stateNow M p1 p2 p3).2; (if r23 = 3 then (let r32 := q_X11_hider M23 p1; (r32, M23)) else ((-2000000005), M23))) else (r4, M)))
set_option maxHeartbeats 4000000 in
set_option maxRecDepth 100000 in
theorem c_X11_hides (l : Launch) (E : gEE) (M : gSm) (S : gSc) (p1 : Int32) (p2 : Int32) (p3 : Int32) (hc : (M.1 0 6).toInt ≤ 366) : Met l yX11_hides wsX11_hides ({ frames := 6, cells := 0, slots := 0, locals := 156 }) (va_Pc [.ref (eM E 0), .int (p1), .int (p2), .int (p3)] (gP E M S)) (va_Qi (fun r (u : gSm) => (r, u) = q_X11_hides M p1 p2 p3) (fun u t => gW E u S t.heap) (eA E)) 0 0 (eA E) := by
  refine Met.ofW (cc := cX11_hides) (maxL := 5) (ret := (some .int)) (by decide) rfl ?_
  intro p e s m args below meth c s₁ B hml hv
  obtain ⟨rfl, hE, hW⟩ := hv
  have hx := B.exec
  have hb := B.bytes
  have hr := B.returns
  have hts := atoms_spec (ws := wsX11_hides) B.pre
  have hown : s.vm.findClass RX11 = some m.cls := findClass_of_methodNamed B.named
  have hlocks := B.notSynchronized
  have hS : va_S (eA E) s.heap s.heap [] := va_S.rf
  have hl := lv_entry ([.ref (eM E 0), .int (p1), .int (p2), .int (p3)]) (n := 5) (Nat.le_of_ble_eq_true rfl)
  rw [lg_entry_eq]
  generalize (lg_sl ([.ref (eM E 0), .int (p1), .int (p2), .int (p3)]) ++ List.replicate (5 - (lg_sl ([.ref (eM E 0), .int (p1), .int (p2), .int (p3)])).length) Slot.unset).toArray = ls at hl ⊢
  have hl : lv_has ls 5 [(0, .ref (eM E 0)), (1, .int (p1)), (2, .int (p2)), (3, .int (p3))] := hl
  have hS : ∃ (H : Heap) (locs : List Loc), H = s.heap ∧ locs = [] ∧ gW E M S H ∧ va_S (eA E) s.heap H locs := ⟨_, _, rfl, rfl, hW, hS⟩
  clear hW
  obtain ⟨H, locs, eH, el, hW, hS⟩ := hS
  rw [← eH, ← el]
  clear eH el
  refine lv_aload_n hx hb dX11_hides_0 rfl (lv_at hl 0 rfl) ?_
  refine lv_iload_n hx hb dX11_hides_1 rfl (lv_at hl 1 rfl) ?_
  refine lv_iload_n hx hb dX11_hides_2 rfl (lv_at hl 2 rfl) ?_
  refine lv_iload_n hx hb dX11_hides_3 rfl (lv_at hl 3 rfl) ?_
  refine k_Si (va_runV (As := [.int (p1), .int (p2), .int (p3)]) (rest := []) ⟨hx, hb, hml, hown, hts⟩ (c_X11_ask l E M S p1 p2 p3) (cwV 3 hts gX11_hides_X11_ask rfl rfl rfl (by decide +kernel) ⟨Nat.le_of_ble_eq_true rfl, Nat.le_of_ble_eq_true rfl⟩) (gP.V (ci := 10) (q := (RX11, TX11, 23)) (q0 := 0) hE hS hW rfl rfl) rfl rfl hl.1 rfl (lv_room (Nat.le_of_ble_eq_true rfl)) dX11_hides_4 ⟨Nat.le_of_ble_eq_true rfl, Nat.le_of_ble_eq_true rfl⟩) (fun r4 er4 => ?_)
  refine lv_istore (lv' := [(4, .int (r4)), (0, .ref (eM E 0)), (1, .int (p1)), (2, .int (p2)), (3, .int (p3))]) hx hb dX11_hides_7 hl (by decide) rfl (fun ls hl => ?_)
  refine lv_iload hx hb dX11_hides_9 (lv_at hl 0 rfl) ?_
  refine lv_if_ge (tgt := 19) hx hb dX11_hides_11 (by decide) (fun c11 => ?_) (fun c11 => ?_)
  · refine lv_aload_n hx hb dX11_hides_19 rfl (lv_at hl 1 rfl) ?_
    refine lv_iload_n hx hb dX11_hides_20 rfl (lv_at hl 2 rfl) ?_
    refine lv_iload_n hx hb dX11_hides_21 rfl (lv_at hl 3 rfl) ?_
    refine lv_iload_n hx hb dX11_hides_22 rfl (lv_at hl 4 rfl) ?_
    refine va_calli (va_runV (As := [.int (p1), .int (p2), .int (p3)]) (rest := []) ⟨hx, hb, hml, hown, hts⟩ (c_X11_stateNow l E M S p1 p2 p3 (askm_of er4 c11).1 (askm_of er4 c11).2.1.1 hc) (cwV 3 hts gX11_hides_X11_stateNow rfl rfl rfl (by decide +kernel) ⟨Nat.le_of_ble_eq_true rfl, Nat.le_of_ble_eq_true rfl⟩) (gP.V (ci := 10) (q := (RX11, TX11, 23)) (q0 := 0) hE hS hW rfl rfl) rfl rfl hl.1 rfl (lv_room (Nat.le_of_ble_eq_true rfl)) dX11_hides_23 ⟨Nat.le_of_ble_eq_true rfl, Nat.le_of_ble_eq_true rfl⟩) hS (fun _ _ h => h) (fun _ h => h) (fun r23 M23 t H locs ht hvm hw hB hz1 hk1 hS => ?_)
    obtain ⟨er23, eM23⟩ := prj hw
    clear hw
    have hW : gW E M23 S H := by rw [← ht]; exact hB
    refine lv_iconst (v := 3) hx hb dX11_hides_26 (by decide) ?_
    refine lv_icmp_ne (tgt := 38) hx hb dX11_hides_27 (by decide) (fun c27 => ?_) (fun c27 => ?_)
    · refine lv_ldc hx hb (v := (-2000000005)) hown (hts (.constant RX11 172 (-2000000005)) (by decide +kernel)) dX11_hides_38 ?_
      exact W.iret (v := (-2000000005)) hx hb hr (fun t ht _ => ⟨⟨(-2000000005), M23, rfl, by subst eM23; subst er23; subst er4; first | (simp only [q_X11_hides, if_pos c11, if_neg c27]; done) | contradiction, by dsimp only; rw [ht]; exact hW⟩, hS.F ht⟩) hS.2.2 dX11_hides_40
    · refine lv_aload_n hx hb dX11_hides_30 rfl (lv_at hl 1 rfl) ?_
      refine lv_iload_n hx hb dX11_hides_31 rfl (lv_at hl 2 rfl) ?_
      refine k_Si (va_runV (As := [.int (p1)]) (rest := []) ⟨hx, hb, hml, hown, hts⟩ (c_X11_hider l E M23 S p1 (askm_of er4 c11).1) (cwV 1 hts gX11_hides_X11_hider rfl rfl rfl (by decide +kernel) ⟨Nat.le_of_ble_eq_true rfl, Nat.le_of_ble_eq_true rfl⟩) (gP.V (ci := 10) (q := (RX11, TX11, 23)) (q0 := 0) hE hS hW rfl rfl) rfl rfl hl.1 rfl (lv_room (Nat.le_of_ble_eq_true rfl)) dX11_hides_32 ⟨Nat.le_of_ble_eq_true rfl, Nat.le_of_ble_eq_true rfl⟩) (fun r32 er32 => ?_)
      refine lv_goto (tgt := 40) hx hb dX11_hides_35 (by decide) ?_
      exact W.iret (v := r32) hx hb hr (fun t ht _ => ⟨⟨r32, M23, rfl, by subst er32; subst eM23; subst er23; subst er4; first | (simp only [q_X11_hides, if_pos c11, if_pos c27]; done) | contradiction, by dsimp only; rw [ht]; exact hW⟩, hS.F ht⟩) hS.2.2 dX11_hides_40
  · refine lv_iload hx hb dX11_hides_14 (lv_at hl 0 rfl) ?_
    refine lv_goto (tgt := 40) hx hb dX11_hides_16 (by decide) ?_
    exact W.iret (v := r4) hx hb hr (fun t ht _ => ⟨⟨r4, M, rfl, by subst er4; first | (simp only [q_X11_hides, if_neg c11]; done) | contradiction, by dsimp only; rw [ht]; exact hW⟩, hS.F ht⟩) hS.2.2 dX11_hides_40

def q_X11_end (M : gSm) (p1 : Int32) (p2 : Int32) (p3 : Int32) (p4 : Int32) : Int32 × gSm := (let r5 := q_X11_isIn (p4.toInt64) 0 1; (if r5 = 0 then ((-2000000001), M) else (let r15 := q_X11_ask M p1 p2 p3; (if 0 ≤ r15 then (let r37 := (q_X11_stateNow M p1 p2 p3).1; let M37 := (q_X11_stateNow M p1 p2 p3).2; (if r37 = 0 then (if p4 = 0 then ((M37.2 0 14).toInt32, M37) else ((M37.2 0 15).toInt32, M37)) else ((-2000000005), M37))) else (r15, M)))))
set_option maxHeartbeats 4000000 in
set_option maxRecDepth 100000 in
theorem c_X11_end (l : Launch) (E : gEE) (M : gSm) (S : gSc) (p1 : Int32) (p2 : Int32) (p3 : Int32) (p4 : Int32) (hc : (M.1 0 6).toInt ≤ 366) : Met l yX11_end wsX11_end ({ frames := 6, cells := 0, slots := 0, locals := 156 }) (va_Pc [.ref (eM E 0), .int (p1), .int (p2), .int (p3), .int (p4)] (gP E M S)) (va_Qi (fun r (u : gSm) => (r, u) = q_X11_end M p1 p2 p3 p4) (fun u t => gW E u S t.heap) (eA E)) 0 0 (eA E) := by
  refine Met.ofW (cc := cX11_end) (maxL := 6) (ret := (some .int)) (by decide) rfl ?_
  intro p e s m args below meth c s₁ B hml hv
  obtain ⟨rfl, hE, hW⟩ := hv
  have hx := B.exec
  have hb := B.bytes
  have hr := B.returns
  have hts := atoms_spec (ws := wsX11_end) B.pre
  have hown : s.vm.findClass RX11 = some m.cls := findClass_of_methodNamed B.named
  have hlocks := B.notSynchronized
  have hinX11 : ∀ w ∈ wsX110, w ∈ wsX11_end := by decide +kernel
  have hS : va_S (eA E) s.heap s.heap [] := va_S.rf
  have hl := lv_entry ([.ref (eM E 0), .int (p1), .int (p2), .int (p3), .int (p4)]) (n := 6) (Nat.le_of_ble_eq_true rfl)
  rw [lg_entry_eq]
  generalize (lg_sl ([.ref (eM E 0), .int (p1), .int (p2), .int (p3), .int (p4)]) ++ List.replicate (6 - (lg_sl ([.ref (eM E 0), .int (p1), .int (p2), .int (p3), .int (p4)])).length) Slot.unset).toArray = ls at hl ⊢
  have hl : lv_has ls 6 [(0, .ref (eM E 0)), (1, .int (p1)), (2, .int (p2)), (3, .int (p3)), (4, .int (p4))] := hl
  have hS : ∃ (H : Heap) (locs : List Loc), H = s.heap ∧ locs = [] ∧ gW E M S H ∧ va_S (eA E) s.heap H locs := ⟨_, _, rfl, rfl, hW, hS⟩
  clear hW
  obtain ⟨H, locs, eH, el, hW, hS⟩ := hS
  rw [← eH, ← el]
  clear eH el
  refine lv_iload hx hb dX11_end_0 (lv_at hl 4 rfl) ?_
  refine lv_i2l (v := p4.toInt64) hx hb dX11_end_2 rfl ?_
  refine lv_lconst (v := 0) hx hb dX11_end_3 (by decide) ?_
  refine lv_lconst (v := 1) hx hb dX11_end_4 (by decide) ?_
  refine k_Si (va_runS (As := [.long (p4.toInt64), .long (0), .long (1)]) (rest := []) ⟨hx, hb, hml, hown, hts⟩ (c_X11_isIn l (p4.toInt64) 0 1) (va_cwS 3 hts gX11_end_X11_isIn rfl rfl rfl (by decide +kernel) ⟨Nat.le_of_ble_eq_true rfl, Nat.le_of_ble_eq_true rfl⟩) gP0 rfl rfl hl.1 rfl (lv_room (Nat.le_of_ble_eq_true rfl)) dX11_end_5 ⟨Nat.le_of_ble_eq_true rfl, Nat.le_of_ble_eq_true rfl⟩) (fun r5 er5 => ?_)
  refine lv_if_eq (tgt := 21) hx hb dX11_end_8 (by decide) (fun c8 => ?_) (fun c8 => ?_)
  · refine lv_ldc hx hb (v := (-2000000001)) hown (hts (.constant RX11 73 (-2000000001)) (by decide +kernel)) dX11_end_21 ?_
    refine lv_istore (lv' := [(5, .int ((-2000000001))), (0, .ref (eM E 0)), (1, .int (p1)), (2, .int (p2)), (3, .int (p3)), (4, .int (p4))]) hx hb dX11_end_23 hl (by decide) rfl (fun ls hl => ?_)
    refine lv_iload hx hb dX11_end_25 (lv_at hl 0 rfl) ?_
    refine lv_if_ge (tgt := 33) hx hb dX11_end_27 (by decide) (fun c27 => ?_) (fun c27 => ?_)
    · exact absurd c27 (by decide)
    · refine lv_iload hx hb dX11_end_30 (lv_at hl 0 rfl) ?_
      exact W.iret (v := (-2000000001)) hx hb hr (fun t ht _ => ⟨⟨(-2000000001), M, rfl, by subst er5; first | (simp only [q_X11_end, if_pos c8]; done) | contradiction, by dsimp only; rw [ht]; exact hW⟩, hS.F ht⟩) hS.2.2 dX11_end_32
  · refine lv_aload_n hx hb dX11_end_11 rfl (lv_at hl 0 rfl) ?_
    refine lv_iload_n hx hb dX11_end_12 rfl (lv_at hl 1 rfl) ?_
    refine lv_iload_n hx hb dX11_end_13 rfl (lv_at hl 2 rfl) ?_
    refine lv_iload_n hx hb dX11_end_14 rfl (lv_at hl 3 rfl) ?_
    refine k_Si (va_runV (As := [.int (p1), .int (p2), .int (p3)]) (rest := []) ⟨hx, hb, hml, hown, hts⟩ (c_X11_ask l E M S p1 p2 p3) (cwV 3 hts gX11_end_X11_ask rfl rfl rfl (by decide +kernel) ⟨Nat.le_of_ble_eq_true rfl, Nat.le_of_ble_eq_true rfl⟩) (gP.V (ci := 10) (q := (RX11, TX11, 23)) (q0 := 0) hE hS hW rfl rfl) rfl rfl hl.1 rfl (lv_room (Nat.le_of_ble_eq_true rfl)) dX11_end_15 ⟨Nat.le_of_ble_eq_true rfl, Nat.le_of_ble_eq_true rfl⟩) (fun r15 er15 => ?_)
    refine lv_goto (tgt := 23) hx hb dX11_end_18 (by decide) ?_
    refine lv_istore (lv' := [(5, .int (r15)), (0, .ref (eM E 0)), (1, .int (p1)), (2, .int (p2)), (3, .int (p3)), (4, .int (p4))]) hx hb dX11_end_23 hl (by decide) rfl (fun ls hl => ?_)
    refine lv_iload hx hb dX11_end_25 (lv_at hl 0 rfl) ?_
    refine lv_if_ge (tgt := 33) hx hb dX11_end_27 (by decide) (fun c27 => ?_) (fun c27 => ?_)
    · refine lv_aload_n hx hb dX11_end_33 rfl (lv_at hl 1 rfl) ?_
      refine lv_iload_n hx hb dX11_end_34 rfl (lv_at hl 2 rfl) ?_
      refine lv_iload_n hx hb dX11_end_35 rfl (lv_at hl 3 rfl) ?_
      refine lv_iload_n hx hb dX11_end_36 rfl (lv_at hl 4 rfl) ?_
      refine va_calli (va_runV (As := [.int (p1), .int (p2), .int (p3)]) (rest := []) ⟨hx, hb, hml, hown, hts⟩ (c_X11_stateNow l E M S p1 p2 p3 (askm_of er15 c27).1 (askm_of er15 c27).2.1.1 hc) (cwV 3 hts gX11_end_X11_stateNow rfl rfl rfl (by decide +kernel) ⟨Nat.le_of_ble_eq_true rfl, Nat.le_of_ble_eq_true rfl⟩) (gP.V (ci := 10) (q := (RX11, TX11, 23)) (q0 := 0) hE hS hW rfl rfl) rfl rfl hl.1 rfl (lv_room (Nat.le_of_ble_eq_true rfl)) dX11_end_37 ⟨Nat.le_of_ble_eq_true rfl, Nat.le_of_ble_eq_true rfl⟩) hS (fun _ _ h => h) (fun _ h => h) (fun r37 M37 t H locs ht hvm hw hB hz1 hk1 hS => ?_)
      obtain ⟨er37, eM37⟩ := prj hw
      clear hw
      have hW : gW E M37 S H := by rw [← ht]; exact hB
      refine lv_if_eq (tgt := 46) hx hb dX11_end_40 (by decide) (fun c40 => ?_) (fun c40 => ?_)
      · refine lv_iload hx hb dX11_end_46 (lv_at hl 5 rfl) ?_
        refine lv_if_ne (tgt := 58) hx hb dX11_end_48 (by decide) (fun c48 => ?_) (fun c48 => ?_)
        · refine lv_aload_n hx hb dX11_end_58 rfl (lv_at hl 1 rfl) ?_
          refine va_get (D := eD E) (cl := vwCl) (tys := eT E) (ci := 10) (C := RX11) (T := TX11) (N := 23) (v := .long (M37.2 0 15)) hx hb hts hinX11 hown hE.1 hW.1 0 rfl rfl 15 (by decide) (hts (.fieldLink RX11 192 "DialGardenModel" "endY" "J") (by decide +kernel)) (fun _ h9 => h9) rfl dX11_end_59 ?_
          refine lv_l2i (v := (M37.2 0 15).toInt32) hx hb dX11_end_62 rfl ?_
          exact W.iret (v := (M37.2 0 15).toInt32) hx hb hr (fun t ht _ => ⟨⟨(M37.2 0 15).toInt32, M37, rfl, by subst eM37; subst er37; subst er15; subst er5; first | (simp only [q_X11_end, if_neg c8, if_pos c27, if_pos c40, if_neg c48]; done) | contradiction, by dsimp only; rw [ht]; exact hW⟩, hS.F ht⟩) hS.2.2 dX11_end_63
        · refine lv_aload_n hx hb dX11_end_51 rfl (lv_at hl 1 rfl) ?_
          refine va_get (D := eD E) (cl := vwCl) (tys := eT E) (ci := 10) (C := RX11) (T := TX11) (N := 23) (v := .long (M37.2 0 14)) hx hb hts hinX11 hown hE.1 hW.1 0 rfl rfl 14 (by decide) (hts (.fieldLink RX11 189 "DialGardenModel" "endX" "J") (by decide +kernel)) (fun _ h9 => h9) rfl dX11_end_52 ?_
          refine lv_goto (tgt := 62) hx hb dX11_end_55 (by decide) ?_
          refine lv_l2i (v := (M37.2 0 14).toInt32) hx hb dX11_end_62 rfl ?_
          exact W.iret (v := (M37.2 0 14).toInt32) hx hb hr (fun t ht _ => ⟨⟨(M37.2 0 14).toInt32, M37, rfl, by subst eM37; subst er37; subst er15; subst er5; first | (simp only [q_X11_end, if_neg c8, if_pos c27, if_pos c40, if_pos c48]; done) | contradiction, by dsimp only; rw [ht]; exact hW⟩, hS.F ht⟩) hS.2.2 dX11_end_63
      · refine lv_ldc hx hb (v := (-2000000005)) hown (hts (.constant RX11 172 (-2000000005)) (by decide +kernel)) dX11_end_43 ?_
        exact W.iret (v := (-2000000005)) hx hb hr (fun t ht _ => ⟨⟨(-2000000005), M37, rfl, by subst eM37; subst er37; subst er15; subst er5; first | (simp only [q_X11_end, if_neg c8, if_pos c27, if_neg c40]; done) | contradiction, by dsimp only; rw [ht]; exact hW⟩, hS.F ht⟩) hS.2.2 dX11_end_45
    · refine lv_iload hx hb dX11_end_30 (lv_at hl 0 rfl) ?_
      exact W.iret (v := r15) hx hb hr (fun t ht _ => ⟨⟨r15, M, rfl, by subst er15; subst er5; first | (simp only [q_X11_end, if_neg c8, if_neg c27]; done) | contradiction, by dsimp only; rw [ht]; exact hW⟩, hS.F ht⟩) hS.2.2 dX11_end_32

def q_X11_latitude (M : gSm) (p1 : Int32) : Int32 × gSm := (let r8 := q_X11_isIn (p1.toInt64) (-16384) 16384; (if r8 = 0 then ((-2000000001), M) else (let x21 := M.1 0 4; (x21, pM M 0 4 p1))))
set_option maxHeartbeats 4000000 in
set_option maxRecDepth 100000 in
theorem c_X11_latitude (l : Launch) (E : gEE) (M : gSm) (S : gSc) (p1 : Int32)  : Met l yX11_latitude wsX11_latitude ({ frames := 1, cells := 0, slots := 0, locals := 25 }) (va_Pc [.ref (eM E 0), .int (p1)] (gP E M S)) (va_Qi (fun r (u : gSm) => (r, u) = q_X11_latitude M p1) (fun u t => gW E u S t.heap) (eA E)) 0 0 (eA E) := by
  refine Met.ofW (cc := cX11_latitude) (maxL := 3) (ret := (some .int)) (by decide) rfl ?_
  intro p e s m args below meth c s₁ B hml hv
  obtain ⟨rfl, hE, hW⟩ := hv
  have hx := B.exec
  have hb := B.bytes
  have hr := B.returns
  have hts := atoms_spec (ws := wsX11_latitude) B.pre
  have hown : s.vm.findClass RX11 = some m.cls := findClass_of_methodNamed B.named
  have hlocks := B.notSynchronized
  have hinX11 : ∀ w ∈ wsX110, w ∈ wsX11_latitude := by decide +kernel
  have hS : va_S (eA E) s.heap s.heap [] := va_S.rf
  have hl := lv_entry ([.ref (eM E 0), .int (p1)]) (n := 3) (Nat.le_of_ble_eq_true rfl)
  rw [lg_entry_eq]
  generalize (lg_sl ([.ref (eM E 0), .int (p1)]) ++ List.replicate (3 - (lg_sl ([.ref (eM E 0), .int (p1)])).length) Slot.unset).toArray = ls at hl ⊢
  have hl : lv_has ls 3 [(0, .ref (eM E 0)), (1, .int (p1))] := hl
  have hS : ∃ (H : Heap) (locs : List Loc), H = s.heap ∧ locs = [] ∧ gW E M S H ∧ va_S (eA E) s.heap H locs := ⟨_, _, rfl, rfl, hW, hS⟩
  clear hW
  obtain ⟨H, locs, eH, el, hW, hS⟩ := hS
  rw [← eH, ← el]
  clear eH el
  refine lv_iload_n hx hb dX11_latitude_0 rfl (lv_at hl 1 rfl) ?_
  refine lv_i2l (v := p1.toInt64) hx hb dX11_latitude_1 rfl ?_
  refine lv_ldc2 hx hb (v := (-16384)) hown (hts (.constantLong RX11 67 (-16384)) (by decide +kernel)) dX11_latitude_2 ?_
  refine lv_ldc2 hx hb (v := 16384) hown (hts (.constantLong RX11 57 (16384)) (by decide +kernel)) dX11_latitude_5 ?_
  refine k_Si (va_runS (As := [.long (p1.toInt64), .long ((-16384)), .long (16384)]) (rest := []) ⟨hx, hb, hml, hown, hts⟩ (c_X11_isIn l (p1.toInt64) (-16384) 16384) (va_cwS 3 hts gX11_latitude_X11_isIn rfl rfl rfl (by decide +kernel) ⟨Nat.le_of_ble_eq_true rfl, Nat.le_of_ble_eq_true rfl⟩) gP0 rfl rfl hl.1 rfl (lv_room (Nat.le_of_ble_eq_true rfl)) dX11_latitude_8 ⟨Nat.le_of_ble_eq_true rfl, Nat.le_of_ble_eq_true rfl⟩) (fun r8 er8 => ?_)
  refine lv_if_ne (tgt := 17) hx hb dX11_latitude_11 (by decide) (fun c11 => ?_) (fun c11 => ?_)
  · refine lv_aload_n hx hb dX11_latitude_17 rfl (lv_at hl 0 rfl) ?_
    refine va_get (D := eD E) (cl := vwCl) (tys := eT E) (ci := 10) (C := RX11) (T := TX11) (N := 23) (v := .int (M.1 0 4)) hx hb hts hinX11 hown hE.1 hW.1 0 rfl rfl 4 (by decide) (hts (.fieldLink RX11 19 "DialGardenModel" "latitude" "I") (by decide +kernel)) (fun _ h9 => h9) rfl dX11_latitude_18 ?_
    refine lv_topi (fun x21 ex21 => ?_)
    refine lv_istore_n (lv' := [(2, .int (x21)), (0, .ref (eM E 0)), (1, .int (p1))]) hx hb dX11_latitude_21 rfl hl (by decide) rfl (fun ls hl => ?_)
    refine lv_aload_n hx hb dX11_latitude_22 rfl (lv_at hl 1 rfl) ?_
    refine lv_iload_n hx hb dX11_latitude_23 rfl (lv_at hl 2 rfl) ?_
    refine va_put (D := eD E) (cl := vwCl) (tys := eT E) (A := eA E) (ci := 10) (C := RX11) (T := TX11) (N := 23) (v := .int (p1)) (ty := .int) hx hb hts hinX11 tyX11 tyX11_ok nmX11 hown hE.1 hW.1 hW.2 hS 0 rfl rfl 4 (by decide) (hts (.fieldLink RX11 19 "DialGardenModel" "latitude" "I") (by decide +kernel)) (fun _ h9 => h9) rfl (by decide +kernel) rfl rfl (Nat.le_of_ble_eq_true rfl) dX11_latitude_24 (fun H locs hP hD hS => ?_)
    have hW : gW E (pM M 0 4 p1) S H := gW.of (uM_0_4 E M S p1) hP hD
    refine lv_iload_n hx hb dX11_latitude_27 rfl (lv_at hl 0 rfl) ?_
    exact W.iret (v := x21) hx hb hr (fun t ht _ => ⟨⟨x21, pM M 0 4 p1, rfl, by subst ex21; subst er8; first | (simp only [q_X11_latitude, if_neg c11]; done) | contradiction, by dsimp only; rw [ht]; exact hW⟩, hS.F ht⟩) hS.2.2 dX11_latitude_28
  · refine lv_ldc hx hb (v := (-2000000001)) hown (hts (.constant RX11 73 (-2000000001)) (by decide +kernel)) dX11_latitude_14 ?_
    exact W.iret (v := (-2000000001)) hx hb hr (fun t ht _ => ⟨⟨(-2000000001), M, rfl, by subst er8; first | (simp only [q_X11_latitude, if_pos c11]; done) | contradiction, by dsimp only; rw [ht]; exact hW⟩, hS.F ht⟩) hS.2.2 dX11_latitude_16

def q_X11_corrections_b22 (M : gSm) (p1 : Int32) : Nat → Int32 → gSm → Int32 × gSm
  | 0, v2, Z => (0, Z)
  | n + 1, v2, Z => (if 366 ≤ v2 then (p1, Z) else (let x36 := v2 + 1; q_X11_corrections_b22 M p1 n x36 (pM Z 4 (v2.toNatClampNeg) 0)))
def q_X11_corrections (M : gSm) (p1 : Int32) : Int32 × gSm := (let r6 := q_X11_isIn (p1.toInt64) 0 366; (if r6 = 0 then ((-2000000001), M) else q_X11_corrections_b22 M p1 367 0 (pM M 0 6 p1)))
set_option maxHeartbeats 4000000 in
set_option maxRecDepth 100000 in
theorem c_X11_corrections (l : Launch) (E : gEE) (M : gSm) (S : gSc) (p1 : Int32)  : Met l yX11_corrections wsX11_corrections ({ frames := 1, cells := 0, slots := 0, locals := 25 }) (va_Pc [.ref (eM E 0), .int (p1)] (gP E M S)) (va_Qi (fun r (u : gSm) => (r, u) = q_X11_corrections M p1) (fun u t => gW E u S t.heap) (eA E)) 0 0 (eA E) := by
  refine Met.ofW (cc := cX11_corrections) (maxL := 3) (ret := (some .int)) (by decide) rfl ?_
  intro p e s m args below meth c s₁ B hml hv
  obtain ⟨rfl, hE, hW⟩ := hv
  have hx := B.exec
  have hb := B.bytes
  have hr := B.returns
  have hts := atoms_spec (ws := wsX11_corrections) B.pre
  have hown : s.vm.findClass RX11 = some m.cls := findClass_of_methodNamed B.named
  have hlocks := B.notSynchronized
  have hinX11 : ∀ w ∈ wsX110, w ∈ wsX11_corrections := by decide +kernel
  have hS : va_S (eA E) s.heap s.heap [] := va_S.rf
  have hl := lv_entry ([.ref (eM E 0), .int (p1)]) (n := 3) (Nat.le_of_ble_eq_true rfl)
  rw [lg_entry_eq]
  generalize (lg_sl ([.ref (eM E 0), .int (p1)]) ++ List.replicate (3 - (lg_sl ([.ref (eM E 0), .int (p1)])).length) Slot.unset).toArray = ls at hl ⊢
  have hl : lv_has ls 3 [(0, .ref (eM E 0)), (1, .int (p1))] := hl
  have hS : ∃ (H : Heap) (locs : List Loc), H = s.heap ∧ locs = [] ∧ gW E M S H ∧ va_S (eA E) s.heap H locs := ⟨_, _, rfl, rfl, hW, hS⟩
  clear hW
  obtain ⟨H, locs, eH, el, hW, hS⟩ := hS
  rw [← eH, ← el]
  clear eH el
  have L22 : ∀ n : Nat, ∀ (v2 : Int32) (Z : gSm) (H : Heap) (locs : List Loc) (ls : Array Slot), (gL 366 n v2) → q_X11_corrections M p1 = q_X11_corrections_b22 M p1 n v2 Z → gW E Z S H → va_S (eA E) s.heap H locs → lv_has ls 3 [(0, .ref (eM E 0)), (1, .int (p1)), (2, .int (v2))] → W p l e (headSpec wsX11_corrections ({ frames := 1, cells := 0, slots := 0, locals := 25 })).room s m ([.ref (eM E 0), .int (p1)] : List Value).toArray below meth c H locs 0 0 (MQ below (va_Qi (fun r (u : gSm) => (r, u) = q_X11_corrections M p1) (fun u t => gW E u S t.heap) (eA E)) ([.ref (eM E 0), .int (p1)] : List Value).toArray s 0 0 (eA E)) (F0 m 22 ls []) := by
    intro n
    induction n with
    | zero =>
      intro v2 Z H locs ls hi hq hW hS hl
      exact hi.z
    | succ n ih =>
      intro v2 Z H locs ls hi hq hW hS hl
      refine lv_iload_n hx hb dX11_corrections_22 rfl (lv_at hl 2 rfl) ?_
      refine lv_sipush (v := 366) hx hb dX11_corrections_23 (by decide) ?_
      refine lv_icmp_ge (tgt := 42) hx hb dX11_corrections_26 (by decide) (fun c26 => ?_) (fun c26 => ?_)
      · refine lv_iload_n hx hb dX11_corrections_42 rfl (lv_at hl 1 rfl) ?_
        exact W.iret (v := p1) hx hb hr (fun t ht _ => ⟨⟨p1, Z, rfl, by rw [hq]; first | (simp only [q_X11_corrections_b22, if_pos c26]; done) | contradiction, by dsimp only; rw [ht]; exact hW⟩, hS.F ht⟩) hS.2.2 dX11_corrections_43
      · refine lv_aload_n hx hb dX11_corrections_29 rfl (lv_at hl 0 rfl) ?_
        refine va_get (D := eD E) (cl := vwCl) (tys := eT E) (ci := 10) (C := RX11) (T := TX11) (N := 23) (v := .ref (eM E 4)) hx hb hts hinX11 hown hE.1 hW.1 0 rfl rfl 5 (by decide) (hts (.fieldLink RX11 23 "DialGardenModel" "corrections" "[I") (by decide +kernel)) (fun _ h9 => h9) rfl dX11_corrections_30 ?_
        refine lv_iload_n hx hb dX11_corrections_33 rfl (lv_at hl 2 rfl) ?_
        refine lv_iconst (v := 0) hx hb dX11_corrections_34 (by decide) ?_
        refine va_iast (D := eD E) (cl := vwCl) (tys := eT E) (A := eA E) (f := Z.1 4) (x := 0) hx hb hE.1 hW.1 hW.2 hS 4 0 rfl rfl (vx (hi.lt c26 (by decide)).1 (hi.lt c26 (by decide)).2) dX11_corrections_35 (fun H locs hP hD hS => ?_)
        have hW : gW E (pM Z 4 (v2.toNatClampNeg) 0) S H := gW.of (tM_I4 E Z S (upd (Z.1 4) (v2.toNatClampNeg) 0)) hP hD
        obtain ⟨x36, ex36⟩ : ∃ y : Int32, y = v2 + 1 := ⟨_, rfl⟩
        refine lv_iinc (v := x36) (lv' := [(2, .int (x36)), (0, .ref (eM E 0)), (1, .int (p1))]) hx hb dX11_corrections_36 hl (k := 2) rfl (by rw [ex36]; rfl) (by decide) rfl (fun ls hl => ?_)
        refine lv_goto (tgt := 22) hx hb dX11_corrections_39 (by decide) ?_
        exact ih _ _ _ _ _ (by exact hi.st c26 (by decide) ex36) (by rw [hq]; subst ex36; first | (simp only [q_X11_corrections_b22, if_neg c26]; done) | contradiction) hW hS (lv_sub hl [1, 2, 0] rfl)
  refine lv_iload_n hx hb dX11_corrections_0 rfl (lv_at hl 1 rfl) ?_
  refine lv_i2l (v := p1.toInt64) hx hb dX11_corrections_1 rfl ?_
  refine lv_lconst (v := 0) hx hb dX11_corrections_2 (by decide) ?_
  refine lv_ldc2 hx hb (v := 366) hown (hts (.constantLong RX11 74 (366)) (by decide +kernel)) dX11_corrections_3 ?_
  refine k_Si (va_runS (As := [.long (p1.toInt64), .long (0), .long (366)]) (rest := []) ⟨hx, hb, hml, hown, hts⟩ (c_X11_isIn l (p1.toInt64) 0 366) (va_cwS 3 hts gX11_corrections_X11_isIn rfl rfl rfl (by decide +kernel) ⟨Nat.le_of_ble_eq_true rfl, Nat.le_of_ble_eq_true rfl⟩) gP0 rfl rfl hl.1 rfl (lv_room (Nat.le_of_ble_eq_true rfl)) dX11_corrections_6 ⟨Nat.le_of_ble_eq_true rfl, Nat.le_of_ble_eq_true rfl⟩) (fun r6 er6 => ?_)
  refine lv_if_ne (tgt := 15) hx hb dX11_corrections_9 (by decide) (fun c9 => ?_) (fun c9 => ?_)
  · refine lv_aload_n hx hb dX11_corrections_15 rfl (lv_at hl 0 rfl) ?_
    refine lv_iload_n hx hb dX11_corrections_16 rfl (lv_at hl 1 rfl) ?_
    refine va_put (D := eD E) (cl := vwCl) (tys := eT E) (A := eA E) (ci := 10) (C := RX11) (T := TX11) (N := 23) (v := .int (p1)) (ty := .int) hx hb hts hinX11 tyX11 tyX11_ok nmX11 hown hE.1 hW.1 hW.2 hS 0 rfl rfl 6 (by decide) (hts (.fieldLink RX11 76 "DialGardenModel" "correctionCount" "I") (by decide +kernel)) (fun _ h9 => h9) rfl (by decide +kernel) rfl rfl (Nat.le_of_ble_eq_true rfl) dX11_corrections_17 (fun H locs hP hD hS => ?_)
    have hW : gW E (pM M 0 6 p1) S H := gW.of (uM_0_6 E M S p1) hP hD
    refine lv_iconst (v := 0) hx hb dX11_corrections_20 (by decide) ?_
    refine lv_istore_n (lv' := [(2, .int (0)), (0, .ref (eM E 0)), (1, .int (p1))]) hx hb dX11_corrections_21 rfl hl (by decide) rfl (fun ls hl => ?_)
    exact L22 367 _ _ _ _ _ (by exact gL.i 366) (by subst er6; first | (simp only [q_X11_corrections, if_neg c9]; done) | contradiction) hW hS (lv_sub hl [1, 2, 0] rfl)
  · refine lv_ldc hx hb (v := (-2000000001)) hown (hts (.constant RX11 73 (-2000000001)) (by decide +kernel)) dX11_corrections_12 ?_
    exact W.iret (v := (-2000000001)) hx hb hr (fun t ht _ => ⟨⟨(-2000000001), M, rfl, by subst er6; first | (simp only [q_X11_corrections, if_pos c9]; done) | contradiction, by dsimp only; rw [ht]; exact hW⟩, hS.F ht⟩) hS.2.2 dX11_corrections_14

def q_X11_correct (M : gSm) (p1 : Int32) (p2 : Int32) : Int32 × gSm := (let r10 := q_X11_isIn (p1.toInt64) 0 (((M.1 0 6) - 1).toInt64); (if r10 = 0 then ((-2000000001), M) else (let r24 := q_X11_isIn (p2.toInt64) (-99) 99; (if r24 = 0 then ((-2000000001), M) else (let x39 := M.1 4 (p1.toNatClampNeg); (x39, pM M 4 (p1.toNatClampNeg) p2))))))
set_option maxHeartbeats 4000000 in
set_option maxRecDepth 100000 in
theorem c_X11_correct (l : Launch) (E : gEE) (M : gSm) (S : gSc) (p1 : Int32) (p2 : Int32) (hc0 : 0 ≤ (M.1 0 6).toInt) (hc : (M.1 0 6).toInt ≤ 366) : Met l yX11_correct wsX11_correct ({ frames := 1, cells := 0, slots := 0, locals := 25 }) (va_Pc [.ref (eM E 0), .int (p1), .int (p2)] (gP E M S)) (va_Qi (fun r (u : gSm) => (r, u) = q_X11_correct M p1 p2) (fun u t => gW E u S t.heap) (eA E)) 0 0 (eA E) := by
  refine Met.ofW (cc := cX11_correct) (maxL := 4) (ret := (some .int)) (by decide) rfl ?_
  intro p e s m args below meth c s₁ B hml hv
  obtain ⟨rfl, hE, hW⟩ := hv
  have hx := B.exec
  have hb := B.bytes
  have hr := B.returns
  have hts := atoms_spec (ws := wsX11_correct) B.pre
  have hown : s.vm.findClass RX11 = some m.cls := findClass_of_methodNamed B.named
  have hlocks := B.notSynchronized
  have hinX11 : ∀ w ∈ wsX110, w ∈ wsX11_correct := by decide +kernel
  have hS : va_S (eA E) s.heap s.heap [] := va_S.rf
  have hl := lv_entry ([.ref (eM E 0), .int (p1), .int (p2)]) (n := 4) (Nat.le_of_ble_eq_true rfl)
  rw [lg_entry_eq]
  generalize (lg_sl ([.ref (eM E 0), .int (p1), .int (p2)]) ++ List.replicate (4 - (lg_sl ([.ref (eM E 0), .int (p1), .int (p2)])).length) Slot.unset).toArray = ls at hl ⊢
  have hl : lv_has ls 4 [(0, .ref (eM E 0)), (1, .int (p1)), (2, .int (p2))] := hl
  have hS : ∃ (H : Heap) (locs : List Loc), H = s.heap ∧ locs = [] ∧ gW E M S H ∧ va_S (eA E) s.heap H locs := ⟨_, _, rfl, rfl, hW, hS⟩
  clear hW
  obtain ⟨H, locs, eH, el, hW, hS⟩ := hS
  rw [← eH, ← el]
  clear eH el
  refine lv_iload_n hx hb dX11_correct_0 rfl (lv_at hl 1 rfl) ?_
  refine lv_i2l (v := p1.toInt64) hx hb dX11_correct_1 rfl ?_
  refine lv_lconst (v := 0) hx hb dX11_correct_2 (by decide) ?_
  refine lv_aload_n hx hb dX11_correct_3 rfl (lv_at hl 0 rfl) ?_
  refine va_get (D := eD E) (cl := vwCl) (tys := eT E) (ci := 10) (C := RX11) (T := TX11) (N := 23) (v := .int (M.1 0 6)) hx hb hts hinX11 hown hE.1 hW.1 0 rfl rfl 6 (by decide) (hts (.fieldLink RX11 76 "DialGardenModel" "correctionCount" "I") (by decide +kernel)) (fun _ h9 => h9) rfl dX11_correct_4 ?_
  refine lv_iconst (v := 1) hx hb dX11_correct_7 (by decide) ?_
  refine lv_isub hx hb dX11_correct_8 ?_
  refine lv_i2l (v := ((M.1 0 6) - 1).toInt64) hx hb dX11_correct_9 rfl ?_
  refine k_Si (va_runS (As := [.long (p1.toInt64), .long (0), .long (((M.1 0 6) - 1).toInt64)]) (rest := []) ⟨hx, hb, hml, hown, hts⟩ (c_X11_isIn l (p1.toInt64) 0 (((M.1 0 6) - 1).toInt64)) (va_cwS 3 hts gX11_correct_X11_isIn rfl rfl rfl (by decide +kernel) ⟨Nat.le_of_ble_eq_true rfl, Nat.le_of_ble_eq_true rfl⟩) gP0 rfl rfl hl.1 rfl (lv_room (Nat.le_of_ble_eq_true rfl)) dX11_correct_10 ⟨Nat.le_of_ble_eq_true rfl, Nat.le_of_ble_eq_true rfl⟩) (fun r10 er10 => ?_)
  refine lv_if_eq (tgt := 30) hx hb dX11_correct_13 (by decide) (fun c13 => ?_) (fun c13 => ?_)
  · refine lv_ldc hx hb (v := (-2000000001)) hown (hts (.constant RX11 73 (-2000000001)) (by decide +kernel)) dX11_correct_30 ?_
    exact W.iret (v := (-2000000001)) hx hb hr (fun t ht _ => ⟨⟨(-2000000001), M, rfl, by subst er10; first | (simp only [q_X11_correct, if_pos c13]; done) | contradiction, by dsimp only; rw [ht]; exact hW⟩, hS.F ht⟩) hS.2.2 dX11_correct_32
  · refine lv_iload_n hx hb dX11_correct_16 rfl (lv_at hl 2 rfl) ?_
    refine lv_i2l (v := p2.toInt64) hx hb dX11_correct_17 rfl ?_
    refine lv_ldc2 hx hb (v := (-99)) hown (hts (.constantLong RX11 79 (-99)) (by decide +kernel)) dX11_correct_18 ?_
    refine lv_ldc2 hx hb (v := 99) hown (hts (.constantLong RX11 81 (99)) (by decide +kernel)) dX11_correct_21 ?_
    refine k_Si (va_runS (As := [.long (p2.toInt64), .long ((-99)), .long (99)]) (rest := []) ⟨hx, hb, hml, hown, hts⟩ (c_X11_isIn l (p2.toInt64) (-99) 99) (va_cwS 3 hts gX11_correct_X11_isIn rfl rfl rfl (by decide +kernel) ⟨Nat.le_of_ble_eq_true rfl, Nat.le_of_ble_eq_true rfl⟩) gP0 rfl rfl hl.1 rfl (lv_room (Nat.le_of_ble_eq_true rfl)) dX11_correct_24 ⟨Nat.le_of_ble_eq_true rfl, Nat.le_of_ble_eq_true rfl⟩) (fun r24 er24 => ?_)
    refine lv_if_ne (tgt := 33) hx hb dX11_correct_27 (by decide) (fun c27 => ?_) (fun c27 => ?_)
    · refine lv_aload_n hx hb dX11_correct_33 rfl (lv_at hl 0 rfl) ?_
      refine va_get (D := eD E) (cl := vwCl) (tys := eT E) (ci := 10) (C := RX11) (T := TX11) (N := 23) (v := .ref (eM E 4)) hx hb hts hinX11 hown hE.1 hW.1 0 rfl rfl 5 (by decide) (hts (.fieldLink RX11 23 "DialGardenModel" "corrections" "[I") (by decide +kernel)) (fun _ h9 => h9) rfl dX11_correct_34 ?_
      refine lv_iload_n hx hb dX11_correct_37 rfl (lv_at hl 1 rfl) ?_
      refine va_iald (D := eD E) (cl := vwCl) (tys := eT E) (f := M.1 4) hx hb hE.1 hW.1 4 0 rfl rfl (co_in er10 c13 hc0 hc) dX11_correct_38 ?_
      refine lv_topi (fun x39 ex39 => ?_)
      refine lv_istore_n (lv' := [(3, .int (x39)), (0, .ref (eM E 0)), (1, .int (p1)), (2, .int (p2))]) hx hb dX11_correct_39 rfl hl (by decide) rfl (fun ls hl => ?_)
      refine lv_aload_n hx hb dX11_correct_40 rfl (lv_at hl 1 rfl) ?_
      refine va_get (D := eD E) (cl := vwCl) (tys := eT E) (ci := 10) (C := RX11) (T := TX11) (N := 23) (v := .ref (eM E 4)) hx hb hts hinX11 hown hE.1 hW.1 0 rfl rfl 5 (by decide) (hts (.fieldLink RX11 23 "DialGardenModel" "corrections" "[I") (by decide +kernel)) (fun _ h9 => h9) rfl dX11_correct_41 ?_
      refine lv_iload_n hx hb dX11_correct_44 rfl (lv_at hl 2 rfl) ?_
      refine lv_iload_n hx hb dX11_correct_45 rfl (lv_at hl 3 rfl) ?_
      refine va_iast (D := eD E) (cl := vwCl) (tys := eT E) (A := eA E) (f := M.1 4) (x := p2) hx hb hE.1 hW.1 hW.2 hS 4 0 rfl rfl (co_in er10 c13 hc0 hc) dX11_correct_46 (fun H locs hP hD hS => ?_)
      have hW : gW E (pM M 4 (p1.toNatClampNeg) p2) S H := gW.of (tM_I4 E M S (upd (M.1 4) (p1.toNatClampNeg) p2)) hP hD
      refine lv_iload_n hx hb dX11_correct_47 rfl (lv_at hl 0 rfl) ?_
      exact W.iret (v := x39) hx hb hr (fun t ht _ => ⟨⟨x39, pM M 4 (p1.toNatClampNeg) p2, rfl, by subst ex39; subst er24; subst er10; first | (simp only [q_X11_correct, if_neg c13, if_neg c27]; done) | contradiction, by dsimp only; rw [ht]; exact hW⟩, hS.F ht⟩) hS.2.2 dX11_correct_48
    · refine lv_ldc hx hb (v := (-2000000001)) hown (hts (.constant RX11 73 (-2000000001)) (by decide +kernel)) dX11_correct_30 ?_
      exact W.iret (v := (-2000000001)) hx hb hr (fun t ht _ => ⟨⟨(-2000000001), M, rfl, by subst er24; subst er10; first | (simp only [q_X11_correct, if_neg c13, if_pos c27]; done) | contradiction, by dsimp only; rw [ht]; exact hW⟩, hS.F ht⟩) hS.2.2 dX11_correct_32

def q_X11_sun (M : gSm) (p1 : Int32) (p2 : Int32) (p3 : Int32) : Int32 × gSm := (let r2 := q_X11_isTime p1 p2; (if r2 = 0 then ((-2000000001), M) else (let r14 := q_X11_isIn (p3.toInt64) 0 5; (if r14 = 0 then ((-2000000001), M) else (let M26 := q_X11_look M p1 p2; (if p3 = 0 then (let x96 := M26.2 0 11; (x96.toInt32, M26)) else (if p3 = 1 then (let x96 := M26.2 0 12; (x96.toInt32, M26)) else (if p3 = 2 then (let x96 := M26.2 0 13; (x96.toInt32, M26)) else (if p3 = 3 then (let r70 := q_X11_slopeOf p1; (r70.toInt32, M26)) else (if p3 = 4 then (let r84 := q_X11_turnOf M26 p1 p2; (r84.toInt32, M26)) else (let r92 := q_X11_correctionOf M26 p1; (let x96 := r92.toInt64; (x96.toInt32, M26)))))))))))))
set_option maxHeartbeats 4000000 in
set_option maxRecDepth 100000 in
theorem c_X11_sun (l : Launch) (E : gEE) (M : gSm) (S : gSc) (p1 : Int32) (p2 : Int32) (p3 : Int32) (hc : (M.1 0 6).toInt ≤ 366) : Met l yX11_sun wsX11_sun ({ frames := 4, cells := 0, slots := 0, locals := 106 }) (va_Pc [.ref (eM E 0), .int (p1), .int (p2), .int (p3)] (gP E M S)) (va_Qi (fun r (u : gSm) => (r, u) = q_X11_sun M p1 p2 p3) (fun u t => gW E u S t.heap) (eA E)) 0 0 (eA E) := by
  refine Met.ofW (cc := cX11_sun) (maxL := 6) (ret := (some .int)) (by decide) rfl ?_
  intro p e s m args below meth c s₁ B hml hv
  obtain ⟨rfl, hE, hW⟩ := hv
  have hx := B.exec
  have hb := B.bytes
  have hr := B.returns
  have hts := atoms_spec (ws := wsX11_sun) B.pre
  have hown : s.vm.findClass RX11 = some m.cls := findClass_of_methodNamed B.named
  have hlocks := B.notSynchronized
  have hinX11 : ∀ w ∈ wsX110, w ∈ wsX11_sun := by decide +kernel
  have hS : va_S (eA E) s.heap s.heap [] := va_S.rf
  have hl := lv_entry ([.ref (eM E 0), .int (p1), .int (p2), .int (p3)]) (n := 6) (Nat.le_of_ble_eq_true rfl)
  rw [lg_entry_eq]
  generalize (lg_sl ([.ref (eM E 0), .int (p1), .int (p2), .int (p3)]) ++ List.replicate (6 - (lg_sl ([.ref (eM E 0), .int (p1), .int (p2), .int (p3)])).length) Slot.unset).toArray = ls at hl ⊢
  have hl : lv_has ls 6 [(0, .ref (eM E 0)), (1, .int (p1)), (2, .int (p2)), (3, .int (p3))] := hl
  have hS : ∃ (H : Heap) (locs : List Loc), H = s.heap ∧ locs = [] ∧ gW E M S H ∧ va_S (eA E) s.heap H locs := ⟨_, _, rfl, rfl, hW, hS⟩
  clear hW
  obtain ⟨H, locs, eH, el, hW, hS⟩ := hS
  rw [← eH, ← el]
  clear eH el
  refine lv_iload_n hx hb dX11_sun_0 rfl (lv_at hl 1 rfl) ?_
  refine lv_iload_n hx hb dX11_sun_1 rfl (lv_at hl 2 rfl) ?_
  refine k_Si (va_runS (As := [.int (p1), .int (p2)]) (rest := []) ⟨hx, hb, hml, hown, hts⟩ (c_X11_isTime l p1 p2) (va_cwS 2 hts gX11_sun_X11_isTime rfl rfl rfl (by decide +kernel) ⟨Nat.le_of_ble_eq_true rfl, Nat.le_of_ble_eq_true rfl⟩) gP0 rfl rfl hl.1 rfl (lv_room (Nat.le_of_ble_eq_true rfl)) dX11_sun_2 ⟨Nat.le_of_ble_eq_true rfl, Nat.le_of_ble_eq_true rfl⟩) (fun r2 er2 => ?_)
  refine lv_if_eq (tgt := 20) hx hb dX11_sun_5 (by decide) (fun c5 => ?_) (fun c5 => ?_)
  · refine lv_ldc hx hb (v := (-2000000001)) hown (hts (.constant RX11 73 (-2000000001)) (by decide +kernel)) dX11_sun_20 ?_
    exact W.iret (v := (-2000000001)) hx hb hr (fun t ht _ => ⟨⟨(-2000000001), M, rfl, by subst er2; first | (simp only [q_X11_sun, if_pos c5]; done) | contradiction, by dsimp only; rw [ht]; exact hW⟩, hS.F ht⟩) hS.2.2 dX11_sun_22
  · refine lv_iload_n hx hb dX11_sun_8 rfl (lv_at hl 3 rfl) ?_
    refine lv_i2l (v := p3.toInt64) hx hb dX11_sun_9 rfl ?_
    refine lv_lconst (v := 0) hx hb dX11_sun_10 (by decide) ?_
    refine lv_ldc2 hx hb (v := 5) hown (hts (.constantLong RX11 125 (5)) (by decide +kernel)) dX11_sun_11 ?_
    refine k_Si (va_runS (As := [.long (p3.toInt64), .long (0), .long (5)]) (rest := []) ⟨hx, hb, hml, hown, hts⟩ (c_X11_isIn l (p3.toInt64) 0 5) (va_cwS 3 hts gX11_sun_X11_isIn rfl rfl rfl (by decide +kernel) ⟨Nat.le_of_ble_eq_true rfl, Nat.le_of_ble_eq_true rfl⟩) gP0 rfl rfl hl.1 rfl (lv_room (Nat.le_of_ble_eq_true rfl)) dX11_sun_14 ⟨Nat.le_of_ble_eq_true rfl, Nat.le_of_ble_eq_true rfl⟩) (fun r14 er14 => ?_)
    refine lv_if_ne (tgt := 23) hx hb dX11_sun_17 (by decide) (fun c17 => ?_) (fun c17 => ?_)
    · refine lv_aload_n hx hb dX11_sun_23 rfl (lv_at hl 0 rfl) ?_
      refine lv_iload_n hx hb dX11_sun_24 rfl (lv_at hl 1 rfl) ?_
      refine lv_iload_n hx hb dX11_sun_25 rfl (lv_at hl 2 rfl) ?_
      refine va_callv (va_runV (As := [.int (p1), .int (p2)]) (rest := []) ⟨hx, hb, hml, hown, hts⟩ (c_X11_look l E M S p1 p2 (isTm_of er2 c5).1.1 hc) (cwV 2 hts gX11_sun_X11_look rfl rfl rfl (by decide +kernel) ⟨Nat.le_of_ble_eq_true rfl, Nat.le_of_ble_eq_true rfl⟩) (gP.V (ci := 10) (q := (RX11, TX11, 23)) (q0 := 0) hE hS hW rfl rfl) rfl rfl hl.1 rfl (lv_room (Nat.le_of_ble_eq_true rfl)) dX11_sun_26 ⟨Nat.le_of_ble_eq_true rfl, Nat.le_of_ble_eq_true rfl⟩) hS (fun _ _ h => h) (fun _ h => h) (fun M26 t H locs ht hvm hw hB hz1 hk1 hS => ?_)
      have eM26 : M26 = q_X11_look M p1 p2 := hw
      clear hw
      have hW : gW E M26 S H := by rw [← ht]; exact hB
      refine lv_iload_n hx hb dX11_sun_29 rfl (lv_at hl 3 rfl) ?_
      refine lv_if_ne (tgt := 40) hx hb dX11_sun_30 (by decide) (fun c30 => ?_) (fun c30 => ?_)
      · refine lv_iload_n hx hb dX11_sun_40 rfl (lv_at hl 3 rfl) ?_
        refine lv_iconst (v := 1) hx hb dX11_sun_41 (by decide) ?_
        refine lv_icmp_ne (tgt := 52) hx hb dX11_sun_42 (by decide) (fun c42 => ?_) (fun c42 => ?_)
        · refine lv_iload_n hx hb dX11_sun_52 rfl (lv_at hl 3 rfl) ?_
          refine lv_iconst (v := 2) hx hb dX11_sun_53 (by decide) ?_
          refine lv_icmp_ne (tgt := 64) hx hb dX11_sun_54 (by decide) (fun c54 => ?_) (fun c54 => ?_)
          · refine lv_iload_n hx hb dX11_sun_64 rfl (lv_at hl 3 rfl) ?_
            refine lv_iconst (v := 3) hx hb dX11_sun_65 (by decide) ?_
            refine lv_icmp_ne (tgt := 76) hx hb dX11_sun_66 (by decide) (fun c66 => ?_) (fun c66 => ?_)
            · refine lv_iload_n hx hb dX11_sun_76 rfl (lv_at hl 3 rfl) ?_
              refine lv_iconst (v := 4) hx hb dX11_sun_77 (by decide) ?_
              refine lv_icmp_ne (tgt := 90) hx hb dX11_sun_78 (by decide) (fun c78 => ?_) (fun c78 => ?_)
              · refine lv_aload_n hx hb dX11_sun_90 rfl (lv_at hl 0 rfl) ?_
                refine lv_iload_n hx hb dX11_sun_91 rfl (lv_at hl 1 rfl) ?_
                refine k_Si (va_runV (As := [.int (p1)]) (rest := []) ⟨hx, hb, hml, hown, hts⟩ (c_X11_correctionOf l E M26 S p1 (isTm_of er2 c5).1.1 (by rw [eM26]; exact hc)) (cwV 1 hts gX11_sun_X11_correctionOf rfl rfl rfl (by decide +kernel) ⟨Nat.le_of_ble_eq_true rfl, Nat.le_of_ble_eq_true rfl⟩) (gP.V (ci := 10) (q := (RX11, TX11, 23)) (q0 := 0) hE hS hW rfl rfl) rfl rfl hl.1 rfl (lv_room (Nat.le_of_ble_eq_true rfl)) dX11_sun_92 ⟨Nat.le_of_ble_eq_true rfl, Nat.le_of_ble_eq_true rfl⟩) (fun r92 er92 => ?_)
                refine lv_i2l (v := r92.toInt64) hx hb dX11_sun_95 rfl ?_
                refine lv_topl (fun x96 ex96 => ?_)
                refine lv_lstore (lv' := [(4, .long (x96)), (0, .ref (eM E 0)), (1, .int (p1)), (2, .int (p2)), (3, .int (p3))]) hx hb dX11_sun_96 hl (by decide) rfl (fun ls hl => ?_)
                refine lv_lload hx hb dX11_sun_98 (lv_at hl 0 rfl) ?_
                refine lv_l2i (v := x96.toInt32) hx hb dX11_sun_100 rfl ?_
                exact W.iret (v := x96.toInt32) hx hb hr (fun t ht _ => ⟨⟨x96.toInt32, M26, rfl, by subst ex96; subst er92; subst eM26; subst er14; subst er2; first | (simp only [q_X11_sun, if_neg c5, if_neg c17, if_neg c30, if_neg c42, if_neg c54, if_neg c66, if_neg c78]; done) | contradiction, by dsimp only; rw [ht]; exact hW⟩, hS.F ht⟩) hS.2.2 dX11_sun_101
              · refine lv_aload_n hx hb dX11_sun_81 rfl (lv_at hl 0 rfl) ?_
                refine lv_iload_n hx hb dX11_sun_82 rfl (lv_at hl 1 rfl) ?_
                refine lv_iload_n hx hb dX11_sun_83 rfl (lv_at hl 2 rfl) ?_
                refine k_Sl (va_runV (As := [.int (p1), .int (p2)]) (rest := []) ⟨hx, hb, hml, hown, hts⟩ (c_X11_turnOf l E M26 S p1 p2 (isTm_of er2 c5).1.1 (by rw [eM26]; exact hc)) (cwV 2 hts gX11_sun_X11_turnOf rfl rfl rfl (by decide +kernel) ⟨Nat.le_of_ble_eq_true rfl, Nat.le_of_ble_eq_true rfl⟩) (gP.V (ci := 10) (q := (RX11, TX11, 23)) (q0 := 0) hE hS hW rfl rfl) rfl rfl hl.1 rfl (lv_room (Nat.le_of_ble_eq_true rfl)) dX11_sun_84 ⟨Nat.le_of_ble_eq_true rfl, Nat.le_of_ble_eq_true rfl⟩) (fun r84 er84 => ?_)
                refine lv_goto (tgt := 96) hx hb dX11_sun_87 (by decide) ?_
                refine lv_lstore (lv' := [(4, .long (r84)), (0, .ref (eM E 0)), (1, .int (p1)), (2, .int (p2)), (3, .int (p3))]) hx hb dX11_sun_96 hl (by decide) rfl (fun ls hl => ?_)
                refine lv_lload hx hb dX11_sun_98 (lv_at hl 0 rfl) ?_
                refine lv_l2i (v := r84.toInt32) hx hb dX11_sun_100 rfl ?_
                exact W.iret (v := r84.toInt32) hx hb hr (fun t ht _ => ⟨⟨r84.toInt32, M26, rfl, by subst er84; subst eM26; subst er14; subst er2; first | (simp only [q_X11_sun, if_neg c5, if_neg c17, if_neg c30, if_neg c42, if_neg c54, if_neg c66, if_pos c78]; done) | contradiction, by dsimp only; rw [ht]; exact hW⟩, hS.F ht⟩) hS.2.2 dX11_sun_101
            · refine lv_iload_n hx hb dX11_sun_69 rfl (lv_at hl 1 rfl) ?_
              refine k_Sl (va_runS (As := [.int (p1)]) (rest := []) ⟨hx, hb, hml, hown, hts⟩ (c_X11_slopeOf l p1) (va_cwS 1 hts gX11_sun_X11_slopeOf rfl rfl rfl (by decide +kernel) ⟨Nat.le_of_ble_eq_true rfl, Nat.le_of_ble_eq_true rfl⟩) gP0 rfl rfl hl.1 rfl (lv_room (Nat.le_of_ble_eq_true rfl)) dX11_sun_70 ⟨Nat.le_of_ble_eq_true rfl, Nat.le_of_ble_eq_true rfl⟩) (fun r70 er70 => ?_)
              refine lv_goto (tgt := 96) hx hb dX11_sun_73 (by decide) ?_
              refine lv_lstore (lv' := [(4, .long (r70)), (0, .ref (eM E 0)), (1, .int (p1)), (2, .int (p2)), (3, .int (p3))]) hx hb dX11_sun_96 hl (by decide) rfl (fun ls hl => ?_)
              refine lv_lload hx hb dX11_sun_98 (lv_at hl 0 rfl) ?_
              refine lv_l2i (v := r70.toInt32) hx hb dX11_sun_100 rfl ?_
              exact W.iret (v := r70.toInt32) hx hb hr (fun t ht _ => ⟨⟨r70.toInt32, M26, rfl, by subst er70; subst eM26; subst er14; subst er2; first | (simp only [q_X11_sun, if_neg c5, if_neg c17, if_neg c30, if_neg c42, if_neg c54, if_pos c66]; done) | contradiction, by dsimp only; rw [ht]; exact hW⟩, hS.F ht⟩) hS.2.2 dX11_sun_101
          · refine lv_aload_n hx hb dX11_sun_57 rfl (lv_at hl 0 rfl) ?_
            refine va_get (D := eD E) (cl := vwCl) (tys := eT E) (ci := 10) (C := RX11) (T := TX11) (N := 23) (v := .long (M26.2 0 13)) hx hb hts hinX11 hown hE.1 hW.1 0 rfl rfl 13 (by decide) (hts (.fieldLink RX11 118 "DialGardenModel" "up" "J") (by decide +kernel)) (fun _ h9 => h9) rfl dX11_sun_58 ?_
            refine lv_goto (tgt := 96) hx hb dX11_sun_61 (by decide) ?_
            refine lv_topl (fun x96 ex96 => ?_)
            refine lv_lstore (lv' := [(4, .long (x96)), (0, .ref (eM E 0)), (1, .int (p1)), (2, .int (p2)), (3, .int (p3))]) hx hb dX11_sun_96 hl (by decide) rfl (fun ls hl => ?_)
            refine lv_lload hx hb dX11_sun_98 (lv_at hl 0 rfl) ?_
            refine lv_l2i (v := x96.toInt32) hx hb dX11_sun_100 rfl ?_
            exact W.iret (v := x96.toInt32) hx hb hr (fun t ht _ => ⟨⟨x96.toInt32, M26, rfl, by subst ex96; subst eM26; subst er14; subst er2; first | (simp only [q_X11_sun, if_neg c5, if_neg c17, if_neg c30, if_neg c42, if_pos c54]; done) | contradiction, by dsimp only; rw [ht]; exact hW⟩, hS.F ht⟩) hS.2.2 dX11_sun_101
        · refine lv_aload_n hx hb dX11_sun_45 rfl (lv_at hl 0 rfl) ?_
          refine va_get (D := eD E) (cl := vwCl) (tys := eT E) (ci := 10) (C := RX11) (T := TX11) (N := 23) (v := .long (M26.2 0 12)) hx hb hts hinX11 hown hE.1 hW.1 0 rfl rfl 12 (by decide) (hts (.fieldLink RX11 115 "DialGardenModel" "north" "J") (by decide +kernel)) (fun _ h9 => h9) rfl dX11_sun_46 ?_
          refine lv_goto (tgt := 96) hx hb dX11_sun_49 (by decide) ?_
          refine lv_topl (fun x96 ex96 => ?_)
          refine lv_lstore (lv' := [(4, .long (x96)), (0, .ref (eM E 0)), (1, .int (p1)), (2, .int (p2)), (3, .int (p3))]) hx hb dX11_sun_96 hl (by decide) rfl (fun ls hl => ?_)
          refine lv_lload hx hb dX11_sun_98 (lv_at hl 0 rfl) ?_
          refine lv_l2i (v := x96.toInt32) hx hb dX11_sun_100 rfl ?_
          exact W.iret (v := x96.toInt32) hx hb hr (fun t ht _ => ⟨⟨x96.toInt32, M26, rfl, by subst ex96; subst eM26; subst er14; subst er2; first | (simp only [q_X11_sun, if_neg c5, if_neg c17, if_neg c30, if_pos c42]; done) | contradiction, by dsimp only; rw [ht]; exact hW⟩, hS.F ht⟩) hS.2.2 dX11_sun_101
      · refine lv_aload_n hx hb dX11_sun_33 rfl (lv_at hl 0 rfl) ?_
        refine va_get (D := eD E) (cl := vwCl) (tys := eT E) (ci := 10) (C := RX11) (T := TX11) (N := 23) (v := .long (M26.2 0 11)) hx hb hts hinX11 hown hE.1 hW.1 0 rfl rfl 11 (by decide) (hts (.fieldLink RX11 111 "DialGardenModel" "east" "J") (by decide +kernel)) (fun _ h9 => h9) rfl dX11_sun_34 ?_
        refine lv_goto (tgt := 96) hx hb dX11_sun_37 (by decide) ?_
        refine lv_topl (fun x96 ex96 => ?_)
        refine lv_lstore (lv' := [(4, .long (x96)), (0, .ref (eM E 0)), (1, .int (p1)), (2, .int (p2)), (3, .int (p3))]) hx hb dX11_sun_96 hl (by decide) rfl (fun ls hl => ?_)
        refine lv_lload hx hb dX11_sun_98 (lv_at hl 0 rfl) ?_
        refine lv_l2i (v := x96.toInt32) hx hb dX11_sun_100 rfl ?_
        exact W.iret (v := x96.toInt32) hx hb hr (fun t ht _ => ⟨⟨x96.toInt32, M26, rfl, by subst ex96; subst eM26; subst er14; subst er2; first | (simp only [q_X11_sun, if_neg c5, if_neg c17, if_pos c30]; done) | contradiction, by dsimp only; rw [ht]; exact hW⟩, hS.F ht⟩) hS.2.2 dX11_sun_101
    · refine lv_ldc hx hb (v := (-2000000001)) hown (hts (.constant RX11 73 (-2000000001)) (by decide +kernel)) dX11_sun_20 ?_
      exact W.iret (v := (-2000000001)) hx hb hr (fun t ht _ => ⟨⟨(-2000000001), M, rfl, by subst er14; subst er2; first | (simp only [q_X11_sun, if_neg c5, if_pos c17]; done) | contradiction, by dsimp only; rw [ht]; exact hW⟩, hS.F ht⟩) hS.2.2 dX11_sun_22

def q_X11_sine (M : gSm) (p1 : Int32) : Int32 := (let r2 := q_X11_sineOf (p1.toInt64); r2.toInt32)
set_option maxHeartbeats 4000000 in
set_option maxRecDepth 100000 in
theorem c_X11_sine (l : Launch) (E : gEE) (M : gSm) (S : gSc) (p1 : Int32)  : Met l yX11_sine wsX11_sine ({ frames := 1, cells := 0, slots := 0, locals := 30 }) (va_Pc [.ref (eM E 0), .int (p1)] (gP E M S)) (vp_Si (fun r => r = q_X11_sine M p1)) 0 0 (fun _ => False) := by
  refine Met.ofW (cc := cX11_sine) (maxL := 2) (ret := (some .int)) (by decide) rfl ?_
  intro p e s m args below meth c s₁ B hml hv
  obtain ⟨rfl, hE, hW⟩ := hv
  have hx := B.exec
  have hb := B.bytes
  have hr := B.returns
  have hts := atoms_spec (ws := wsX11_sine) B.pre
  have hown : s.vm.findClass RX11 = some m.cls := findClass_of_methodNamed B.named
  have hlocks := B.notSynchronized
  have hS : va_S (eA E) s.heap s.heap [] := va_S.rf
  have hl := lv_entry ([.ref (eM E 0), .int (p1)]) (n := 2) (Nat.le_of_ble_eq_true rfl)
  rw [lg_entry_eq]
  generalize (lg_sl ([.ref (eM E 0), .int (p1)]) ++ List.replicate (2 - (lg_sl ([.ref (eM E 0), .int (p1)])).length) Slot.unset).toArray = ls at hl ⊢
  have hl : lv_has ls 2 [(0, .ref (eM E 0)), (1, .int (p1))] := hl
  refine lv_iload_n hx hb dX11_sine_0 rfl (lv_at hl 1 rfl) ?_
  refine lv_i2l (v := p1.toInt64) hx hb dX11_sine_1 rfl ?_
  refine k_Sl (va_runS (As := [.long (p1.toInt64)]) (rest := []) ⟨hx, hb, hml, hown, hts⟩ (c_X11_sineOf l (p1.toInt64)) (va_cwS 1 hts gX11_sine_X11_sineOf rfl rfl rfl (by decide +kernel) ⟨Nat.le_of_ble_eq_true rfl, Nat.le_of_ble_eq_true rfl⟩) gP0 rfl rfl hl.1 rfl (lv_room (Nat.le_of_ble_eq_true rfl)) dX11_sine_2 ⟨Nat.le_of_ble_eq_true rfl, Nat.le_of_ble_eq_true rfl⟩) (fun r2 er2 => ?_)
  refine lv_l2i (v := r2.toInt32) hx hb dX11_sine_5 rfl ?_
  exact W.iret (v := r2.toInt32) hx hb hr (fun t ht _ => ⟨r2.toInt32, rfl, by subst er2; first | (simp only [q_X11_sine]; done) | contradiction, ht⟩) (fun _ h => nomatch h) dX11_sine_6

def q_X11_holds (M : gSm) (p1 : Int32) : Int32 := (let r1 := q_X11_isPlace p1; (if r1 = 0 then (-2000000001) else (let r10 := q_X11_get M p1 0; r10)))
set_option maxHeartbeats 4000000 in
set_option maxRecDepth 100000 in
theorem c_X11_holds (l : Launch) (E : gEE) (M : gSm) (S : gSc) (p1 : Int32)  : Met l yX11_holds wsX11_holds ({ frames := 2, cells := 0, slots := 0, locals := 45 }) (va_Pc [.ref (eM E 0), .int (p1)] (gP E M S)) (vp_Si (fun r => r = q_X11_holds M p1)) 0 0 (fun _ => False) := by
  refine Met.ofW (cc := cX11_holds) (maxL := 2) (ret := (some .int)) (by decide) rfl ?_
  intro p e s m args below meth c s₁ B hml hv
  obtain ⟨rfl, hE, hW⟩ := hv
  have hx := B.exec
  have hb := B.bytes
  have hr := B.returns
  have hts := atoms_spec (ws := wsX11_holds) B.pre
  have hown : s.vm.findClass RX11 = some m.cls := findClass_of_methodNamed B.named
  have hlocks := B.notSynchronized
  have hS : va_S (eA E) s.heap s.heap [] := va_S.rf
  have hl := lv_entry ([.ref (eM E 0), .int (p1)]) (n := 2) (Nat.le_of_ble_eq_true rfl)
  rw [lg_entry_eq]
  generalize (lg_sl ([.ref (eM E 0), .int (p1)]) ++ List.replicate (2 - (lg_sl ([.ref (eM E 0), .int (p1)])).length) Slot.unset).toArray = ls at hl ⊢
  have hl : lv_has ls 2 [(0, .ref (eM E 0)), (1, .int (p1))] := hl
  refine lv_iload_n hx hb dX11_holds_0 rfl (lv_at hl 1 rfl) ?_
  refine k_Si (va_runS (As := [.int (p1)]) (rest := []) ⟨hx, hb, hml, hown, hts⟩ (c_X11_isPlace l p1) (va_cwS 1 hts gX11_holds_X11_isPlace rfl rfl rfl (by decide +kernel) ⟨Nat.le_of_ble_eq_true rfl, Nat.le_of_ble_eq_true rfl⟩) gP0 rfl rfl hl.1 rfl (lv_room (Nat.le_of_ble_eq_true rfl)) dX11_holds_1 ⟨Nat.le_of_ble_eq_true rfl, Nat.le_of_ble_eq_true rfl⟩) (fun r1 er1 => ?_)
  refine lv_if_eq (tgt := 16) hx hb dX11_holds_4 (by decide) (fun c4 => ?_) (fun c4 => ?_)
  · refine lv_ldc hx hb (v := (-2000000001)) hown (hts (.constant RX11 73 (-2000000001)) (by decide +kernel)) dX11_holds_16 ?_
    exact W.iret (v := (-2000000001)) hx hb hr (fun t ht _ => ⟨(-2000000001), rfl, by subst er1; first | (simp only [q_X11_holds, if_pos c4]; done) | contradiction, ht⟩) (fun _ h => nomatch h) dX11_holds_18
  · refine lv_aload_n hx hb dX11_holds_7 rfl (lv_at hl 0 rfl) ?_
    refine lv_iload_n hx hb dX11_holds_8 rfl (lv_at hl 1 rfl) ?_
    refine lv_iconst (v := 0) hx hb dX11_holds_9 (by decide) ?_
    refine k_Si (va_runV (As := [.int (p1), .int (0)]) (rest := []) ⟨hx, hb, hml, hown, hts⟩ (c_X11_get l E M S p1 0 (gx (isPm_of er1 c4) (by decide))) (cwV 2 hts gX11_holds_X11_get rfl rfl rfl (by decide +kernel) ⟨Nat.le_of_ble_eq_true rfl, Nat.le_of_ble_eq_true rfl⟩) (gP.V (ci := 10) (q := (RX11, TX11, 23)) (q0 := 0) hE hS hW rfl rfl) rfl rfl hl.1 rfl (lv_room (Nat.le_of_ble_eq_true rfl)) dX11_holds_10 ⟨Nat.le_of_ble_eq_true rfl, Nat.le_of_ble_eq_true rfl⟩) (fun r10 er10 => ?_)
    refine lv_goto (tgt := 18) hx hb dX11_holds_13 (by decide) ?_
    exact W.iret (v := r10) hx hb hr (fun t ht _ => ⟨r10, rfl, by subst er10; subst er1; first | (simp only [q_X11_holds, if_neg c4]; done) | contradiction, ht⟩) (fun _ h => nomatch h) dX11_holds_18

def q_X11_isOf (M : gSm) (p1 : Int32) (p2 : Int32) : Int32 := (let r1 := q_X11_isPlace p1; (if r1 = 0 then (-2000000001) else (let r13 := q_X11_isIn (p2.toInt64) 0 4; (if r13 = 0 then (-2000000001) else (let r25 := q_X11_isOfKind M p1 p2; (if r25 = 0 then 0 else 1))))))
set_option maxHeartbeats 4000000 in
set_option maxRecDepth 100000 in
theorem c_X11_isOf (l : Launch) (E : gEE) (M : gSm) (S : gSc) (p1 : Int32) (p2 : Int32)  : Met l yX11_isOf wsX11_isOf ({ frames := 2, cells := 0, slots := 0, locals := 45 }) (va_Pc [.ref (eM E 0), .int (p1), .int (p2)] (gP E M S)) (vp_Si (fun r => r = q_X11_isOf M p1 p2)) 0 0 (fun _ => False) := by
  refine Met.ofW (cc := cX11_isOf) (maxL := 3) (ret := (some .int)) (by decide) rfl ?_
  intro p e s m args below meth c s₁ B hml hv
  obtain ⟨rfl, hE, hW⟩ := hv
  have hx := B.exec
  have hb := B.bytes
  have hr := B.returns
  have hts := atoms_spec (ws := wsX11_isOf) B.pre
  have hown : s.vm.findClass RX11 = some m.cls := findClass_of_methodNamed B.named
  have hlocks := B.notSynchronized
  have hS : va_S (eA E) s.heap s.heap [] := va_S.rf
  have hl := lv_entry ([.ref (eM E 0), .int (p1), .int (p2)]) (n := 3) (Nat.le_of_ble_eq_true rfl)
  rw [lg_entry_eq]
  generalize (lg_sl ([.ref (eM E 0), .int (p1), .int (p2)]) ++ List.replicate (3 - (lg_sl ([.ref (eM E 0), .int (p1), .int (p2)])).length) Slot.unset).toArray = ls at hl ⊢
  have hl : lv_has ls 3 [(0, .ref (eM E 0)), (1, .int (p1)), (2, .int (p2))] := hl
  refine lv_iload_n hx hb dX11_isOf_0 rfl (lv_at hl 1 rfl) ?_
  refine k_Si (va_runS (As := [.int (p1)]) (rest := []) ⟨hx, hb, hml, hown, hts⟩ (c_X11_isPlace l p1) (va_cwS 1 hts gX11_isOf_X11_isPlace rfl rfl rfl (by decide +kernel) ⟨Nat.le_of_ble_eq_true rfl, Nat.le_of_ble_eq_true rfl⟩) gP0 rfl rfl hl.1 rfl (lv_room (Nat.le_of_ble_eq_true rfl)) dX11_isOf_1 ⟨Nat.le_of_ble_eq_true rfl, Nat.le_of_ble_eq_true rfl⟩) (fun r1 er1 => ?_)
  refine lv_if_eq (tgt := 19) hx hb dX11_isOf_4 (by decide) (fun c4 => ?_) (fun c4 => ?_)
  · refine lv_ldc hx hb (v := (-2000000001)) hown (hts (.constant RX11 73 (-2000000001)) (by decide +kernel)) dX11_isOf_19 ?_
    exact W.iret (v := (-2000000001)) hx hb hr (fun t ht _ => ⟨(-2000000001), rfl, by subst er1; first | (simp only [q_X11_isOf, if_pos c4]; done) | contradiction, ht⟩) (fun _ h => nomatch h) dX11_isOf_21
  · refine lv_iload_n hx hb dX11_isOf_7 rfl (lv_at hl 2 rfl) ?_
    refine lv_i2l (v := p2.toInt64) hx hb dX11_isOf_8 rfl ?_
    refine lv_lconst (v := 0) hx hb dX11_isOf_9 (by decide) ?_
    refine lv_ldc2 hx hb (v := 4) hown (hts (.constantLong RX11 146 (4)) (by decide +kernel)) dX11_isOf_10 ?_
    refine k_Si (va_runS (As := [.long (p2.toInt64), .long (0), .long (4)]) (rest := []) ⟨hx, hb, hml, hown, hts⟩ (c_X11_isIn l (p2.toInt64) 0 4) (va_cwS 3 hts gX11_isOf_X11_isIn rfl rfl rfl (by decide +kernel) ⟨Nat.le_of_ble_eq_true rfl, Nat.le_of_ble_eq_true rfl⟩) gP0 rfl rfl hl.1 rfl (lv_room (Nat.le_of_ble_eq_true rfl)) dX11_isOf_13 ⟨Nat.le_of_ble_eq_true rfl, Nat.le_of_ble_eq_true rfl⟩) (fun r13 er13 => ?_)
    refine lv_if_ne (tgt := 22) hx hb dX11_isOf_16 (by decide) (fun c16 => ?_) (fun c16 => ?_)
    · refine lv_aload_n hx hb dX11_isOf_22 rfl (lv_at hl 0 rfl) ?_
      refine lv_iload_n hx hb dX11_isOf_23 rfl (lv_at hl 1 rfl) ?_
      refine lv_iload_n hx hb dX11_isOf_24 rfl (lv_at hl 2 rfl) ?_
      refine k_Si (va_runV (As := [.int (p1), .int (p2)]) (rest := []) ⟨hx, hb, hml, hown, hts⟩ (c_X11_isOfKind l E M S p1 p2 (isPm_of er1 c4)) (cwV 2 hts gX11_isOf_X11_isOfKind rfl rfl rfl (by decide +kernel) ⟨Nat.le_of_ble_eq_true rfl, Nat.le_of_ble_eq_true rfl⟩) (gP.V (ci := 10) (q := (RX11, TX11, 23)) (q0 := 0) hE hS hW rfl rfl) rfl rfl hl.1 rfl (lv_room (Nat.le_of_ble_eq_true rfl)) dX11_isOf_25 ⟨Nat.le_of_ble_eq_true rfl, Nat.le_of_ble_eq_true rfl⟩) (fun r25 er25 => ?_)
      refine lv_if_eq (tgt := 35) hx hb dX11_isOf_28 (by decide) (fun c28 => ?_) (fun c28 => ?_)
      · refine lv_iconst (v := 0) hx hb dX11_isOf_35 (by decide) ?_
        exact W.iret (v := 0) hx hb hr (fun t ht _ => ⟨0, rfl, by subst er25; subst er13; subst er1; first | (simp only [q_X11_isOf, if_neg c4, if_neg c16, if_pos c28]; done) | contradiction, ht⟩) (fun _ h => nomatch h) dX11_isOf_36
      · refine lv_iconst (v := 1) hx hb dX11_isOf_31 (by decide) ?_
        refine lv_goto (tgt := 36) hx hb dX11_isOf_32 (by decide) ?_
        exact W.iret (v := 1) hx hb hr (fun t ht _ => ⟨1, rfl, by subst er25; subst er13; subst er1; first | (simp only [q_X11_isOf, if_neg c4, if_neg c16, if_neg c28]; done) | contradiction, ht⟩) (fun _ h => nomatch h) dX11_isOf_36
    · refine lv_ldc hx hb (v := (-2000000001)) hown (hts (.constant RX11 73 (-2000000001)) (by decide +kernel)) dX11_isOf_19 ?_
      exact W.iret (v := (-2000000001)) hx hb hr (fun t ht _ => ⟨(-2000000001), rfl, by subst er13; subst er1; first | (simp only [q_X11_isOf, if_neg c4, if_pos c16]; done) | contradiction, ht⟩) (fun _ h => nomatch h) dX11_isOf_21

def q_X11_leftMany_b4 (M : gSm) (p1 : Int32) : Nat → Int32 → Int32 → Int32
  | 0, v2, v3 => 0
  | n + 1, v2, v3 => (if 24 ≤ v3 then v2 else (let r15 := q_X11_get M p1 6; (let x23 := v2 + ((r15 >>> (v3 &&& 31)) &&& 1); (let x24 := v3 + 1; q_X11_leftMany_b4 M p1 n x23 x24))))
def q_X11_leftMany (M : gSm) (p1 : Int32) : Int32 := q_X11_leftMany_b4 M p1 25 0 0
set_option maxHeartbeats 4000000 in
set_option maxRecDepth 100000 in
theorem c_X11_leftMany (l : Launch) (E : gEE) (M : gSm) (S : gSc) (p1 : Int32) (hp : isP p1) : Met l yX11_leftMany wsX11_leftMany ({ frames := 1, cells := 0, slots := 0, locals := 22 }) (va_Pc [.ref (eM E 0), .int (p1)] (gP E M S)) (vp_Si (fun r => r = q_X11_leftMany M p1)) 0 0 (fun _ => False) := by
  refine Met.ofW (cc := cX11_leftMany) (maxL := 4) (ret := (some .int)) (by decide) rfl ?_
  intro p e s m args below meth c s₁ B hml hv
  obtain ⟨rfl, hE, hW⟩ := hv
  have hx := B.exec
  have hb := B.bytes
  have hr := B.returns
  have hts := atoms_spec (ws := wsX11_leftMany) B.pre
  have hown : s.vm.findClass RX11 = some m.cls := findClass_of_methodNamed B.named
  have hlocks := B.notSynchronized
  have hS : va_S (eA E) s.heap s.heap [] := va_S.rf
  have hl := lv_entry ([.ref (eM E 0), .int (p1)]) (n := 4) (Nat.le_of_ble_eq_true rfl)
  rw [lg_entry_eq]
  generalize (lg_sl ([.ref (eM E 0), .int (p1)]) ++ List.replicate (4 - (lg_sl ([.ref (eM E 0), .int (p1)])).length) Slot.unset).toArray = ls at hl ⊢
  have hl : lv_has ls 4 [(0, .ref (eM E 0)), (1, .int (p1))] := hl
  have L4 : ∀ n : Nat, ∀ (v2 : Int32) (v3 : Int32) (ls : Array Slot), (gL 24 n v3) → q_X11_leftMany M p1 = q_X11_leftMany_b4 M p1 n v2 v3 → lv_has ls 4 [(0, .ref (eM E 0)), (1, .int (p1)), (2, .int (v2)), (3, .int (v3))] → W p l e (headSpec wsX11_leftMany ({ frames := 1, cells := 0, slots := 0, locals := 22 })).room s m ([.ref (eM E 0), .int (p1)] : List Value).toArray below meth c s.heap [] 0 0 (MQ below (vp_Si (fun r => r = q_X11_leftMany M p1)) ([.ref (eM E 0), .int (p1)] : List Value).toArray s 0 0 (fun _ => False)) (F0 m 4 ls []) := by
    intro n
    induction n with
    | zero =>
      intro v2 v3 ls hi hq hl
      exact hi.z
    | succ n ih =>
      intro v2 v3 ls hi hq hl
      refine lv_iload_n hx hb dX11_leftMany_4 rfl (lv_at hl 3 rfl) ?_
      refine lv_bipush (v := 24) hx hb dX11_leftMany_5 (by decide) ?_
      refine lv_icmp_ge (tgt := 30) hx hb dX11_leftMany_7 (by decide) (fun c7 => ?_) (fun c7 => ?_)
      · refine lv_iload_n hx hb dX11_leftMany_30 rfl (lv_at hl 2 rfl) ?_
        exact W.iret (v := v2) hx hb hr (fun t ht _ => ⟨v2, rfl, by rw [hq]; first | (simp only [q_X11_leftMany_b4, if_pos c7]; done) | contradiction, ht⟩) (fun _ h => nomatch h) dX11_leftMany_31
      · refine lv_iload_n hx hb dX11_leftMany_10 rfl (lv_at hl 2 rfl) ?_
        refine lv_aload_n hx hb dX11_leftMany_11 rfl (lv_at hl 0 rfl) ?_
        refine lv_iload_n hx hb dX11_leftMany_12 rfl (lv_at hl 1 rfl) ?_
        refine lv_bipush (v := 6) hx hb dX11_leftMany_13 (by decide) ?_
        refine k_Si (va_runV (As := [.int (p1), .int (6)]) (rest := [.int (v2)]) ⟨hx, hb, hml, hown, hts⟩ (c_X11_get l E M S p1 6 (gx hp (by decide))) (cwV 2 hts gX11_leftMany_X11_get rfl rfl rfl (by decide +kernel) ⟨Nat.le_of_ble_eq_true rfl, Nat.le_of_ble_eq_true rfl⟩) (gP.V (ci := 10) (q := (RX11, TX11, 23)) (q0 := 0) hE hS hW rfl rfl) rfl rfl hl.1 rfl (lv_room (Nat.le_of_ble_eq_true rfl)) dX11_leftMany_15 ⟨Nat.le_of_ble_eq_true rfl, Nat.le_of_ble_eq_true rfl⟩) (fun r15 er15 => ?_)
        refine lv_iload_n hx hb dX11_leftMany_18 rfl (lv_at hl 3 rfl) ?_
        refine lv_ishr hx hb dX11_leftMany_19 ?_
        refine lv_iconst (v := 1) hx hb dX11_leftMany_20 (by decide) ?_
        refine lv_iand hx hb dX11_leftMany_21 ?_
        refine lv_iadd hx hb dX11_leftMany_22 ?_
        refine lv_topi (fun x23 ex23 => ?_)
        refine lv_istore_n (lv' := [(2, .int (x23)), (0, .ref (eM E 0)), (1, .int (p1)), (3, .int (v3))]) hx hb dX11_leftMany_23 rfl hl (by decide) rfl (fun ls hl => ?_)
        obtain ⟨x24, ex24⟩ : ∃ y : Int32, y = v3 + 1 := ⟨_, rfl⟩
        refine lv_iinc (v := x24) (lv' := [(3, .int (x24)), (2, .int (x23)), (0, .ref (eM E 0)), (1, .int (p1))]) hx hb dX11_leftMany_24 hl (k := 3) rfl (by rw [ex24]; rfl) (by decide) rfl (fun ls hl => ?_)
        refine lv_goto (tgt := 4) hx hb dX11_leftMany_27 (by decide) ?_
        exact ih _ _ _ (by exact hi.st c7 (by decide) ex24) (by rw [hq]; subst ex24; subst ex23; subst er15; first | (simp only [q_X11_leftMany_b4, if_neg c7]; done) | contradiction) (lv_sub hl [2, 3, 1, 0] rfl)
  refine lv_iconst (v := 0) hx hb dX11_leftMany_0 (by decide) ?_
  refine lv_istore_n (lv' := [(2, .int (0)), (0, .ref (eM E 0)), (1, .int (p1))]) hx hb dX11_leftMany_1 rfl hl (by decide) rfl (fun ls hl => ?_)
  refine lv_iconst (v := 0) hx hb dX11_leftMany_2 (by decide) ?_
  refine lv_istore_n (lv' := [(3, .int (0)), (2, .int (0)), (0, .ref (eM E 0)), (1, .int (p1))]) hx hb dX11_leftMany_3 rfl hl (by decide) rfl (fun ls hl => ?_)
  exact L4 25 _ _ _ (by exact gL.i 24) (by first | (simp only [q_X11_leftMany]; done) | contradiction) (lv_sub hl [2, 3, 1, 0] rfl)

def q_X11_about (M : gSm) (p1 : Int32) (p2 : Int32) : Int32 := (let r1 := q_X11_isPlace p1; (if r1 = 0 then (-2000000001) else (let r13 := q_X11_isIn (p2.toInt64) 0 5; (if r13 = 0 then (-2000000001) else (let r25 := q_X11_get M p1 0; (if r25 = 0 then (-2000000002) else (let r36 := q_X11_isDial M p1; (if r36 = 0 then (if p2 = 5 then (-2000000005) else (let r57 := q_X11_get M p1 (1 + p2); r57)) else (if 3 ≤ p2 then (if p2 = 3 then (let r83 := q_X11_isOfKind M p1 1; (if r83 = 0 then (-2000000005) else (let r92 := q_X11_get M p1 4; r92))) else (if p2 = 4 then (let r109 := q_X11_isOfKind M p1 2; (if r109 = 0 then (-2000000005) else (let r118 := q_X11_get M p1 5; r118))) else (let r130 := q_X11_isOfKind M p1 4; (if r130 = 0 then (-2000000005) else (let r138 := q_X11_leftMany M p1; r138))))) else (let r71 := q_X11_get M p1 (1 + p2); r71))))))))))
set_option maxHeartbeats 4000000 in
set_option maxRecDepth 100000 in
theorem c_X11_about (l : Launch) (E : gEE) (M : gSm) (S : gSc) (p1 : Int32) (p2 : Int32)  : Met l yX11_about wsX11_about ({ frames := 2, cells := 0, slots := 0, locals := 45 }) (va_Pc [.ref (eM E 0), .int (p1), .int (p2)] (gP E M S)) (vp_Si (fun r => r = q_X11_about M p1 p2)) 0 0 (fun _ => False) := by
  refine Met.ofW (cc := cX11_about) (maxL := 3) (ret := (some .int)) (by decide) rfl ?_
  intro p e s m args below meth c s₁ B hml hv
  obtain ⟨rfl, hE, hW⟩ := hv
  have hx := B.exec
  have hb := B.bytes
  have hr := B.returns
  have hts := atoms_spec (ws := wsX11_about) B.pre
  have hown : s.vm.findClass RX11 = some m.cls := findClass_of_methodNamed B.named
  have hlocks := B.notSynchronized
  have hS : va_S (eA E) s.heap s.heap [] := va_S.rf
  have hl := lv_entry ([.ref (eM E 0), .int (p1), .int (p2)]) (n := 3) (Nat.le_of_ble_eq_true rfl)
  rw [lg_entry_eq]
  generalize (lg_sl ([.ref (eM E 0), .int (p1), .int (p2)]) ++ List.replicate (3 - (lg_sl ([.ref (eM E 0), .int (p1), .int (p2)])).length) Slot.unset).toArray = ls at hl ⊢
  have hl : lv_has ls 3 [(0, .ref (eM E 0)), (1, .int (p1)), (2, .int (p2))] := hl
  refine lv_iload_n hx hb dX11_about_0 rfl (lv_at hl 1 rfl) ?_
  refine k_Si (va_runS (As := [.int (p1)]) (rest := []) ⟨hx, hb, hml, hown, hts⟩ (c_X11_isPlace l p1) (va_cwS 1 hts gX11_about_X11_isPlace rfl rfl rfl (by decide +kernel) ⟨Nat.le_of_ble_eq_true rfl, Nat.le_of_ble_eq_true rfl⟩) gP0 rfl rfl hl.1 rfl (lv_room (Nat.le_of_ble_eq_true rfl)) dX11_about_1 ⟨Nat.le_of_ble_eq_true rfl, Nat.le_of_ble_eq_true rfl⟩) (fun r1 er1 => ?_)
  refine lv_if_eq (tgt := 19) hx hb dX11_about_4 (by decide) (fun c4 => ?_) (fun c4 => ?_)
  · refine lv_ldc hx hb (v := (-2000000001)) hown (hts (.constant RX11 73 (-2000000001)) (by decide +kernel)) dX11_about_19 ?_
    exact W.iret (v := (-2000000001)) hx hb hr (fun t ht _ => ⟨(-2000000001), rfl, by subst er1; first | (simp only [q_X11_about, if_pos c4]; done) | contradiction, ht⟩) (fun _ h => nomatch h) dX11_about_21
  · refine lv_iload_n hx hb dX11_about_7 rfl (lv_at hl 2 rfl) ?_
    refine lv_i2l (v := p2.toInt64) hx hb dX11_about_8 rfl ?_
    refine lv_lconst (v := 0) hx hb dX11_about_9 (by decide) ?_
    refine lv_ldc2 hx hb (v := 5) hown (hts (.constantLong RX11 125 (5)) (by decide +kernel)) dX11_about_10 ?_
    refine k_Si (va_runS (As := [.long (p2.toInt64), .long (0), .long (5)]) (rest := []) ⟨hx, hb, hml, hown, hts⟩ (c_X11_isIn l (p2.toInt64) 0 5) (va_cwS 3 hts gX11_about_X11_isIn rfl rfl rfl (by decide +kernel) ⟨Nat.le_of_ble_eq_true rfl, Nat.le_of_ble_eq_true rfl⟩) gP0 rfl rfl hl.1 rfl (lv_room (Nat.le_of_ble_eq_true rfl)) dX11_about_13 ⟨Nat.le_of_ble_eq_true rfl, Nat.le_of_ble_eq_true rfl⟩) (fun r13 er13 => ?_)
    refine lv_if_ne (tgt := 22) hx hb dX11_about_16 (by decide) (fun c16 => ?_) (fun c16 => ?_)
    · refine lv_aload_n hx hb dX11_about_22 rfl (lv_at hl 0 rfl) ?_
      refine lv_iload_n hx hb dX11_about_23 rfl (lv_at hl 1 rfl) ?_
      refine lv_iconst (v := 0) hx hb dX11_about_24 (by decide) ?_
      refine k_Si (va_runV (As := [.int (p1), .int (0)]) (rest := []) ⟨hx, hb, hml, hown, hts⟩ (c_X11_get l E M S p1 0 (gx (isPm_of er1 c4) (by decide))) (cwV 2 hts gX11_about_X11_get rfl rfl rfl (by decide +kernel) ⟨Nat.le_of_ble_eq_true rfl, Nat.le_of_ble_eq_true rfl⟩) (gP.V (ci := 10) (q := (RX11, TX11, 23)) (q0 := 0) hE hS hW rfl rfl) rfl rfl hl.1 rfl (lv_room (Nat.le_of_ble_eq_true rfl)) dX11_about_25 ⟨Nat.le_of_ble_eq_true rfl, Nat.le_of_ble_eq_true rfl⟩) (fun r25 er25 => ?_)
      refine lv_if_ne (tgt := 34) hx hb dX11_about_28 (by decide) (fun c28 => ?_) (fun c28 => ?_)
      · refine lv_aload_n hx hb dX11_about_34 rfl (lv_at hl 0 rfl) ?_
        refine lv_iload_n hx hb dX11_about_35 rfl (lv_at hl 1 rfl) ?_
        refine k_Si (va_runV (As := [.int (p1)]) (rest := []) ⟨hx, hb, hml, hown, hts⟩ (c_X11_isDial l E M S p1 (isPm_of er1 c4)) (cwV 1 hts gX11_about_X11_isDial rfl rfl rfl (by decide +kernel) ⟨Nat.le_of_ble_eq_true rfl, Nat.le_of_ble_eq_true rfl⟩) (gP.V (ci := 10) (q := (RX11, TX11, 23)) (q0 := 0) hE hS hW rfl rfl) rfl rfl hl.1 rfl (lv_room (Nat.le_of_ble_eq_true rfl)) dX11_about_36 ⟨Nat.le_of_ble_eq_true rfl, Nat.le_of_ble_eq_true rfl⟩) (fun r36 er36 => ?_)
        refine lv_if_ne (tgt := 61) hx hb dX11_about_39 (by decide) (fun c39 => ?_) (fun c39 => ?_)
        · refine lv_iload_n hx hb dX11_about_61 rfl (lv_at hl 2 rfl) ?_
          refine lv_iconst (v := 3) hx hb dX11_about_62 (by decide) ?_
          refine lv_icmp_ge (tgt := 75) hx hb dX11_about_63 (by decide) (fun c63 => ?_) (fun c63 => ?_)
          · refine lv_iload_n hx hb dX11_about_75 rfl (lv_at hl 2 rfl) ?_
            refine lv_iconst (v := 3) hx hb dX11_about_76 (by decide) ?_
            refine lv_icmp_ne (tgt := 101) hx hb dX11_about_77 (by decide) (fun c77 => ?_) (fun c77 => ?_)
            · refine lv_iload_n hx hb dX11_about_101 rfl (lv_at hl 2 rfl) ?_
              refine lv_iconst (v := 4) hx hb dX11_about_102 (by decide) ?_
              refine lv_icmp_ne (tgt := 127) hx hb dX11_about_103 (by decide) (fun c103 => ?_) (fun c103 => ?_)
              · refine lv_aload_n hx hb dX11_about_127 rfl (lv_at hl 0 rfl) ?_
                refine lv_iload_n hx hb dX11_about_128 rfl (lv_at hl 1 rfl) ?_
                refine lv_iconst (v := 4) hx hb dX11_about_129 (by decide) ?_
                refine k_Si (va_runV (As := [.int (p1), .int (4)]) (rest := []) ⟨hx, hb, hml, hown, hts⟩ (c_X11_isOfKind l E M S p1 4 (isPm_of er1 c4)) (cwV 2 hts gX11_about_X11_isOfKind rfl rfl rfl (by decide +kernel) ⟨Nat.le_of_ble_eq_true rfl, Nat.le_of_ble_eq_true rfl⟩) (gP.V (ci := 10) (q := (RX11, TX11, 23)) (q0 := 0) hE hS hW rfl rfl) rfl rfl hl.1 rfl (lv_room (Nat.le_of_ble_eq_true rfl)) dX11_about_130 ⟨Nat.le_of_ble_eq_true rfl, Nat.le_of_ble_eq_true rfl⟩) (fun r130 er130 => ?_)
                refine lv_if_eq (tgt := 144) hx hb dX11_about_133 (by decide) (fun c133 => ?_) (fun c133 => ?_)
                · refine lv_ldc hx hb (v := (-2000000005)) hown (hts (.constant RX11 172 (-2000000005)) (by decide +kernel)) dX11_about_144 ?_
                  exact W.iret (v := (-2000000005)) hx hb hr (fun t ht _ => ⟨(-2000000005), rfl, by subst er130; subst er36; subst er25; subst er13; subst er1; first | (simp only [q_X11_about, if_neg c4, if_neg c16, if_neg c28, if_neg c39, if_pos c63, if_neg c77, if_neg c103, if_pos c133]; done) | contradiction, ht⟩) (fun _ h => nomatch h) dX11_about_146
                · refine lv_aload_n hx hb dX11_about_136 rfl (lv_at hl 0 rfl) ?_
                  refine lv_iload_n hx hb dX11_about_137 rfl (lv_at hl 1 rfl) ?_
                  refine k_Si (va_runV (As := [.int (p1)]) (rest := []) ⟨hx, hb, hml, hown, hts⟩ (c_X11_leftMany l E M S p1 (isPm_of er1 c4)) (cwV 1 hts gX11_about_X11_leftMany rfl rfl rfl (by decide +kernel) ⟨Nat.le_of_ble_eq_true rfl, Nat.le_of_ble_eq_true rfl⟩) (gP.V (ci := 10) (q := (RX11, TX11, 23)) (q0 := 0) hE hS hW rfl rfl) rfl rfl hl.1 rfl (lv_room (Nat.le_of_ble_eq_true rfl)) dX11_about_138 ⟨Nat.le_of_ble_eq_true rfl, Nat.le_of_ble_eq_true rfl⟩) (fun r138 er138 => ?_)
                  refine lv_goto (tgt := 146) hx hb dX11_about_141 (by decide) ?_
                  exact W.iret (v := r138) hx hb hr (fun t ht _ => ⟨r138, rfl, by subst er138; subst er130; subst er36; subst er25; subst er13; subst er1; first | (simp only [q_X11_about, if_neg c4, if_neg c16, if_neg c28, if_neg c39, if_pos c63, if_neg c77, if_neg c103, if_neg c133]; done) | contradiction, ht⟩) (fun _ h => nomatch h) dX11_about_146
              · refine lv_aload_n hx hb dX11_about_106 rfl (lv_at hl 0 rfl) ?_
                refine lv_iload_n hx hb dX11_about_107 rfl (lv_at hl 1 rfl) ?_
                refine lv_iconst (v := 2) hx hb dX11_about_108 (by decide) ?_
                refine k_Si (va_runV (As := [.int (p1), .int (2)]) (rest := []) ⟨hx, hb, hml, hown, hts⟩ (c_X11_isOfKind l E M S p1 2 (isPm_of er1 c4)) (cwV 2 hts gX11_about_X11_isOfKind rfl rfl rfl (by decide +kernel) ⟨Nat.le_of_ble_eq_true rfl, Nat.le_of_ble_eq_true rfl⟩) (gP.V (ci := 10) (q := (RX11, TX11, 23)) (q0 := 0) hE hS hW rfl rfl) rfl rfl hl.1 rfl (lv_room (Nat.le_of_ble_eq_true rfl)) dX11_about_109 ⟨Nat.le_of_ble_eq_true rfl, Nat.le_of_ble_eq_true rfl⟩) (fun r109 er109 => ?_)
                refine lv_if_eq (tgt := 124) hx hb dX11_about_112 (by decide) (fun c112 => ?_) (fun c112 => ?_)
                · refine lv_ldc hx hb (v := (-2000000005)) hown (hts (.constant RX11 172 (-2000000005)) (by decide +kernel)) dX11_about_124 ?_
                  exact W.iret (v := (-2000000005)) hx hb hr (fun t ht _ => ⟨(-2000000005), rfl, by subst er109; subst er36; subst er25; subst er13; subst er1; first | (simp only [q_X11_about, if_neg c4, if_neg c16, if_neg c28, if_neg c39, if_pos c63, if_neg c77, if_pos c103, if_pos c112]; done) | contradiction, ht⟩) (fun _ h => nomatch h) dX11_about_126
                · refine lv_aload_n hx hb dX11_about_115 rfl (lv_at hl 0 rfl) ?_
                  refine lv_iload_n hx hb dX11_about_116 rfl (lv_at hl 1 rfl) ?_
                  refine lv_iconst (v := 5) hx hb dX11_about_117 (by decide) ?_
                  refine k_Si (va_runV (As := [.int (p1), .int (5)]) (rest := []) ⟨hx, hb, hml, hown, hts⟩ (c_X11_get l E M S p1 5 (gx (isPm_of er1 c4) (by decide))) (cwV 2 hts gX11_about_X11_get rfl rfl rfl (by decide +kernel) ⟨Nat.le_of_ble_eq_true rfl, Nat.le_of_ble_eq_true rfl⟩) (gP.V (ci := 10) (q := (RX11, TX11, 23)) (q0 := 0) hE hS hW rfl rfl) rfl rfl hl.1 rfl (lv_room (Nat.le_of_ble_eq_true rfl)) dX11_about_118 ⟨Nat.le_of_ble_eq_true rfl, Nat.le_of_ble_eq_true rfl⟩) (fun r118 er118 => ?_)
                  refine lv_goto (tgt := 126) hx hb dX11_about_121 (by decide) ?_
                  exact W.iret (v := r118) hx hb hr (fun t ht _ => ⟨r118, rfl, by subst er118; subst er109; subst er36; subst er25; subst er13; subst er1; first | (simp only [q_X11_about, if_neg c4, if_neg c16, if_neg c28, if_neg c39, if_pos c63, if_neg c77, if_pos c103, if_neg c112]; done) | contradiction, ht⟩) (fun _ h => nomatch h) dX11_about_126
            · refine lv_aload_n hx hb dX11_about_80 rfl (lv_at hl 0 rfl) ?_
              refine lv_iload_n hx hb dX11_about_81 rfl (lv_at hl 1 rfl) ?_
              refine lv_iconst (v := 1) hx hb dX11_about_82 (by decide) ?_
              refine k_Si (va_runV (As := [.int (p1), .int (1)]) (rest := []) ⟨hx, hb, hml, hown, hts⟩ (c_X11_isOfKind l E M S p1 1 (isPm_of er1 c4)) (cwV 2 hts gX11_about_X11_isOfKind rfl rfl rfl (by decide +kernel) ⟨Nat.le_of_ble_eq_true rfl, Nat.le_of_ble_eq_true rfl⟩) (gP.V (ci := 10) (q := (RX11, TX11, 23)) (q0 := 0) hE hS hW rfl rfl) rfl rfl hl.1 rfl (lv_room (Nat.le_of_ble_eq_true rfl)) dX11_about_83 ⟨Nat.le_of_ble_eq_true rfl, Nat.le_of_ble_eq_true rfl⟩) (fun r83 er83 => ?_)
              refine lv_if_eq (tgt := 98) hx hb dX11_about_86 (by decide) (fun c86 => ?_) (fun c86 => ?_)
              · refine lv_ldc hx hb (v := (-2000000005)) hown (hts (.constant RX11 172 (-2000000005)) (by decide +kernel)) dX11_about_98 ?_
                exact W.iret (v := (-2000000005)) hx hb hr (fun t ht _ => ⟨(-2000000005), rfl, by subst er83; subst er36; subst er25; subst er13; subst er1; first | (simp only [q_X11_about, if_neg c4, if_neg c16, if_neg c28, if_neg c39, if_pos c63, if_pos c77, if_pos c86]; done) | contradiction, ht⟩) (fun _ h => nomatch h) dX11_about_100
              · refine lv_aload_n hx hb dX11_about_89 rfl (lv_at hl 0 rfl) ?_
                refine lv_iload_n hx hb dX11_about_90 rfl (lv_at hl 1 rfl) ?_
                refine lv_iconst (v := 4) hx hb dX11_about_91 (by decide) ?_
                refine k_Si (va_runV (As := [.int (p1), .int (4)]) (rest := []) ⟨hx, hb, hml, hown, hts⟩ (c_X11_get l E M S p1 4 (gx (isPm_of er1 c4) (by decide))) (cwV 2 hts gX11_about_X11_get rfl rfl rfl (by decide +kernel) ⟨Nat.le_of_ble_eq_true rfl, Nat.le_of_ble_eq_true rfl⟩) (gP.V (ci := 10) (q := (RX11, TX11, 23)) (q0 := 0) hE hS hW rfl rfl) rfl rfl hl.1 rfl (lv_room (Nat.le_of_ble_eq_true rfl)) dX11_about_92 ⟨Nat.le_of_ble_eq_true rfl, Nat.le_of_ble_eq_true rfl⟩) (fun r92 er92 => ?_)
                refine lv_goto (tgt := 100) hx hb dX11_about_95 (by decide) ?_
                exact W.iret (v := r92) hx hb hr (fun t ht _ => ⟨r92, rfl, by subst er92; subst er83; subst er36; subst er25; subst er13; subst er1; first | (simp only [q_X11_about, if_neg c4, if_neg c16, if_neg c28, if_neg c39, if_pos c63, if_pos c77, if_neg c86]; done) | contradiction, ht⟩) (fun _ h => nomatch h) dX11_about_100
          · refine lv_aload_n hx hb dX11_about_66 rfl (lv_at hl 0 rfl) ?_
            refine lv_iload_n hx hb dX11_about_67 rfl (lv_at hl 1 rfl) ?_
            refine lv_iconst (v := 1) hx hb dX11_about_68 (by decide) ?_
            refine lv_iload_n hx hb dX11_about_69 rfl (lv_at hl 2 rfl) ?_
            refine lv_iadd hx hb dX11_about_70 ?_
            refine k_Si (va_runV (As := [.int (p1), .int (1 + p2)]) (rest := []) ⟨hx, hb, hml, hown, hts⟩ (c_X11_get l E M S p1 (1 + p2) (gx (isPm_of er1 c4) (ab_in er13 c16 c63))) (cwV 2 hts gX11_about_X11_get rfl rfl rfl (by decide +kernel) ⟨Nat.le_of_ble_eq_true rfl, Nat.le_of_ble_eq_true rfl⟩) (gP.V (ci := 10) (q := (RX11, TX11, 23)) (q0 := 0) hE hS hW rfl rfl) rfl rfl hl.1 rfl (lv_room (Nat.le_of_ble_eq_true rfl)) dX11_about_71 ⟨Nat.le_of_ble_eq_true rfl, Nat.le_of_ble_eq_true rfl⟩) (fun r71 er71 => ?_)
            exact W.iret (v := r71) hx hb hr (fun t ht _ => ⟨r71, rfl, by subst er71; subst er36; subst er25; subst er13; subst er1; first | (simp only [q_X11_about, if_neg c4, if_neg c16, if_neg c28, if_neg c39, if_neg c63]; done) | contradiction, ht⟩) (fun _ h => nomatch h) dX11_about_74
        · refine lv_iload_n hx hb dX11_about_42 rfl (lv_at hl 2 rfl) ?_
          refine lv_iconst (v := 5) hx hb dX11_about_43 (by decide) ?_
          refine lv_icmp_ne (tgt := 52) hx hb dX11_about_44 (by decide) (fun c44 => ?_) (fun c44 => ?_)
          · refine lv_aload_n hx hb dX11_about_52 rfl (lv_at hl 0 rfl) ?_
            refine lv_iload_n hx hb dX11_about_53 rfl (lv_at hl 1 rfl) ?_
            refine lv_iconst (v := 1) hx hb dX11_about_54 (by decide) ?_
            refine lv_iload_n hx hb dX11_about_55 rfl (lv_at hl 2 rfl) ?_
            refine lv_iadd hx hb dX11_about_56 ?_
            refine k_Si (va_runV (As := [.int (p1), .int (1 + p2)]) (rest := []) ⟨hx, hb, hml, hown, hts⟩ (c_X11_get l E M S p1 (1 + p2) (gx (isPm_of er1 c4) (ab_in er13 c16 c44))) (cwV 2 hts gX11_about_X11_get rfl rfl rfl (by decide +kernel) ⟨Nat.le_of_ble_eq_true rfl, Nat.le_of_ble_eq_true rfl⟩) (gP.V (ci := 10) (q := (RX11, TX11, 23)) (q0 := 0) hE hS hW rfl rfl) rfl rfl hl.1 rfl (lv_room (Nat.le_of_ble_eq_true rfl)) dX11_about_57 ⟨Nat.le_of_ble_eq_true rfl, Nat.le_of_ble_eq_true rfl⟩) (fun r57 er57 => ?_)
            exact W.iret (v := r57) hx hb hr (fun t ht _ => ⟨r57, rfl, by subst er57; subst er36; subst er25; subst er13; subst er1; first | (simp only [q_X11_about, if_neg c4, if_neg c16, if_neg c28, if_pos c39, if_neg c44]; done) | contradiction, ht⟩) (fun _ h => nomatch h) dX11_about_60
          · refine lv_ldc hx hb (v := (-2000000005)) hown (hts (.constant RX11 172 (-2000000005)) (by decide +kernel)) dX11_about_47 ?_
            refine lv_goto (tgt := 60) hx hb dX11_about_49 (by decide) ?_
            exact W.iret (v := (-2000000005)) hx hb hr (fun t ht _ => ⟨(-2000000005), rfl, by subst er36; subst er25; subst er13; subst er1; first | (simp only [q_X11_about, if_neg c4, if_neg c16, if_neg c28, if_pos c39, if_pos c44]; done) | contradiction, ht⟩) (fun _ h => nomatch h) dX11_about_60
      · refine lv_ldc hx hb (v := (-2000000002)) hown (hts (.constant RX11 141 (-2000000002)) (by decide +kernel)) dX11_about_31 ?_
        exact W.iret (v := (-2000000002)) hx hb hr (fun t ht _ => ⟨(-2000000002), rfl, by subst er25; subst er13; subst er1; first | (simp only [q_X11_about, if_neg c4, if_neg c16, if_pos c28]; done) | contradiction, ht⟩) (fun _ h => nomatch h) dX11_about_33
    · refine lv_ldc hx hb (v := (-2000000001)) hown (hts (.constant RX11 73 (-2000000001)) (by decide +kernel)) dX11_about_19 ?_
      exact W.iret (v := (-2000000001)) hx hb hr (fun t ht _ => ⟨(-2000000001), rfl, by subst er13; subst er1; first | (simp only [q_X11_about, if_neg c4, if_pos c16]; done) | contradiction, ht⟩) (fun _ h => nomatch h) dX11_about_21

def q_X11_turn (M : gSm) (p1 : Int32) : Int32 := (let r10 := q_X11_isIn (p1.toInt64) 0 (((M.1 0 10) - 1).toInt64); (if r10 = 0 then (-2000000001) else M.1 6 (p1.toNatClampNeg)))
set_option maxHeartbeats 4000000 in
set_option maxRecDepth 100000 in
theorem c_X11_turn (l : Launch) (E : gEE) (M : gSm) (S : gSc) (p1 : Int32) (ht0 : 0 ≤ (M.1 0 10).toInt) (ht : (M.1 0 10).toInt ≤ 601) : Met l yX11_turn wsX11_turn ({ frames := 1, cells := 0, slots := 0, locals := 25 }) (va_Pc [.ref (eM E 0), .int (p1)] (gP E M S)) (vp_Si (fun r => r = q_X11_turn M p1)) 0 0 (fun _ => False) := by
  refine Met.ofW (cc := cX11_turn) (maxL := 2) (ret := (some .int)) (by decide) rfl ?_
  intro p e s m args below meth c s₁ B hml hv
  obtain ⟨rfl, hE, hW⟩ := hv
  have hx := B.exec
  have hb := B.bytes
  have hr := B.returns
  have hts := atoms_spec (ws := wsX11_turn) B.pre
  have hown : s.vm.findClass RX11 = some m.cls := findClass_of_methodNamed B.named
  have hlocks := B.notSynchronized
  have hinX11 : ∀ w ∈ wsX110, w ∈ wsX11_turn := by decide +kernel
  have hS : va_S (eA E) s.heap s.heap [] := va_S.rf
  have hl := lv_entry ([.ref (eM E 0), .int (p1)]) (n := 2) (Nat.le_of_ble_eq_true rfl)
  rw [lg_entry_eq]
  generalize (lg_sl ([.ref (eM E 0), .int (p1)]) ++ List.replicate (2 - (lg_sl ([.ref (eM E 0), .int (p1)])).length) Slot.unset).toArray = ls at hl ⊢
  have hl : lv_has ls 2 [(0, .ref (eM E 0)), (1, .int (p1))] := hl
  refine lv_iload_n hx hb dX11_turn_0 rfl (lv_at hl 1 rfl) ?_
  refine lv_i2l (v := p1.toInt64) hx hb dX11_turn_1 rfl ?_
  refine lv_lconst (v := 0) hx hb dX11_turn_2 (by decide) ?_
  refine lv_aload_n hx hb dX11_turn_3 rfl (lv_at hl 0 rfl) ?_
  refine va_get (D := eD E) (cl := vwCl) (tys := eT E) (ci := 10) (C := RX11) (T := TX11) (N := 23) (v := .int (M.1 0 10)) hx hb hts hinX11 hown hE.1 hW.1 0 rfl rfl 10 (by decide) (hts (.fieldLink RX11 254 "DialGardenModel" "turnCount" "I") (by decide +kernel)) (fun _ h9 => h9) rfl dX11_turn_4 ?_
  refine lv_iconst (v := 1) hx hb dX11_turn_7 (by decide) ?_
  refine lv_isub hx hb dX11_turn_8 ?_
  refine lv_i2l (v := ((M.1 0 10) - 1).toInt64) hx hb dX11_turn_9 rfl ?_
  refine k_Si (va_runS (As := [.long (p1.toInt64), .long (0), .long (((M.1 0 10) - 1).toInt64)]) (rest := []) ⟨hx, hb, hml, hown, hts⟩ (c_X11_isIn l (p1.toInt64) 0 (((M.1 0 10) - 1).toInt64)) (va_cwS 3 hts gX11_turn_X11_isIn rfl rfl rfl (by decide +kernel) ⟨Nat.le_of_ble_eq_true rfl, Nat.le_of_ble_eq_true rfl⟩) gP0 rfl rfl hl.1 rfl (lv_room (Nat.le_of_ble_eq_true rfl)) dX11_turn_10 ⟨Nat.le_of_ble_eq_true rfl, Nat.le_of_ble_eq_true rfl⟩) (fun r10 er10 => ?_)
  refine lv_if_eq (tgt := 25) hx hb dX11_turn_13 (by decide) (fun c13 => ?_) (fun c13 => ?_)
  · refine lv_ldc hx hb (v := (-2000000001)) hown (hts (.constant RX11 73 (-2000000001)) (by decide +kernel)) dX11_turn_25 ?_
    exact W.iret (v := (-2000000001)) hx hb hr (fun t ht _ => ⟨(-2000000001), rfl, by subst er10; first | (simp only [q_X11_turn, if_pos c13]; done) | contradiction, ht⟩) (fun _ h => nomatch h) dX11_turn_27
  · refine lv_aload_n hx hb dX11_turn_16 rfl (lv_at hl 0 rfl) ?_
    refine va_get (D := eD E) (cl := vwCl) (tys := eT E) (ci := 10) (C := RX11) (T := TX11) (N := 23) (v := .ref (eM E 6)) hx hb hts hinX11 hown hE.1 hW.1 0 rfl rfl 9 (by decide) (hts (.fieldLink RX11 29 "DialGardenModel" "turns" "[I") (by decide +kernel)) (fun _ h9 => h9) rfl dX11_turn_17 ?_
    refine lv_iload_n hx hb dX11_turn_20 rfl (lv_at hl 1 rfl) ?_
    refine va_iald (D := eD E) (cl := vwCl) (tys := eT E) (f := M.1 6) hx hb hE.1 hW.1 6 0 rfl rfl (co_in er10 c13 ht0 ht) dX11_turn_21 ?_
    refine lv_goto (tgt := 27) hx hb dX11_turn_22 (by decide) ?_
    exact W.iret (v := M.1 6 (p1.toNatClampNeg)) hx hb hr (fun t ht _ => ⟨M.1 6 (p1.toNatClampNeg), rfl, by subst er10; first | (simp only [q_X11_turn, if_neg c13]; done) | contradiction, ht⟩) (fun _ h => nomatch h) dX11_turn_27

def q_X11_manyOf_b5 (M : gSm) (p1 : Int32) (p2 : Int32) : Nat → Int32 → Int32 → Int32
  | 0, v3, v4 => 0
  | n + 1, v3, v4 => (if 40 ≤ v4 then v3 else (let r17 := q_X11_get M v4 0; (let r25 := q_X11_isIn (r17.toInt64) (p1.toInt64) (p2.toInt64); (if r25 = 0 then (let x37 := v3 + 0; (let x38 := v4 + 1; q_X11_manyOf_b5 M p1 p2 n x37 x38)) else (let x37 := v3 + 1; (let x38 := v4 + 1; q_X11_manyOf_b5 M p1 p2 n x37 x38))))))
def q_X11_manyOf (M : gSm) (p1 : Int32) (p2 : Int32) : Int32 := q_X11_manyOf_b5 M p1 p2 41 0 0
set_option maxHeartbeats 4000000 in
set_option maxRecDepth 100000 in
theorem c_X11_manyOf (l : Launch) (E : gEE) (M : gSm) (S : gSc) (p1 : Int32) (p2 : Int32)  : Met l yX11_manyOf wsX11_manyOf ({ frames := 1, cells := 0, slots := 0, locals := 25 }) (va_Pc [.ref (eM E 0), .int (p1), .int (p2)] (gP E M S)) (vp_Si (fun r => r = q_X11_manyOf M p1 p2)) 0 0 (fun _ => False) := by
  refine Met.ofW (cc := cX11_manyOf) (maxL := 5) (ret := (some .int)) (by decide) rfl ?_
  intro p e s m args below meth c s₁ B hml hv
  obtain ⟨rfl, hE, hW⟩ := hv
  have hx := B.exec
  have hb := B.bytes
  have hr := B.returns
  have hts := atoms_spec (ws := wsX11_manyOf) B.pre
  have hown : s.vm.findClass RX11 = some m.cls := findClass_of_methodNamed B.named
  have hlocks := B.notSynchronized
  have hS : va_S (eA E) s.heap s.heap [] := va_S.rf
  have hl := lv_entry ([.ref (eM E 0), .int (p1), .int (p2)]) (n := 5) (Nat.le_of_ble_eq_true rfl)
  rw [lg_entry_eq]
  generalize (lg_sl ([.ref (eM E 0), .int (p1), .int (p2)]) ++ List.replicate (5 - (lg_sl ([.ref (eM E 0), .int (p1), .int (p2)])).length) Slot.unset).toArray = ls at hl ⊢
  have hl : lv_has ls 5 [(0, .ref (eM E 0)), (1, .int (p1)), (2, .int (p2))] := hl
  have L5 : ∀ n : Nat, ∀ (v3 : Int32) (v4 : Int32) (ls : Array Slot), (gL 40 n v4) → q_X11_manyOf M p1 p2 = q_X11_manyOf_b5 M p1 p2 n v3 v4 → lv_has ls 5 [(0, .ref (eM E 0)), (1, .int (p1)), (2, .int (p2)), (3, .int (v3)), (4, .int (v4))] → W p l e (headSpec wsX11_manyOf ({ frames := 1, cells := 0, slots := 0, locals := 25 })).room s m ([.ref (eM E 0), .int (p1), .int (p2)] : List Value).toArray below meth c s.heap [] 0 0 (MQ below (vp_Si (fun r => r = q_X11_manyOf M p1 p2)) ([.ref (eM E 0), .int (p1), .int (p2)] : List Value).toArray s 0 0 (fun _ => False)) (F0 m 5 ls []) := by
    intro n
    induction n with
    | zero =>
      intro v3 v4 ls hi hq hl
      exact hi.z
    | succ n ih =>
      intro v3 v4 ls hi hq hl
      refine lv_iload hx hb dX11_manyOf_5 (lv_at hl 4 rfl) ?_
      refine lv_bipush (v := 40) hx hb dX11_manyOf_7 (by decide) ?_
      refine lv_icmp_ge (tgt := 44) hx hb dX11_manyOf_9 (by decide) (fun c9 => ?_) (fun c9 => ?_)
      · refine lv_iload_n hx hb dX11_manyOf_44 rfl (lv_at hl 3 rfl) ?_
        exact W.iret (v := v3) hx hb hr (fun t ht _ => ⟨v3, rfl, by rw [hq]; first | (simp only [q_X11_manyOf_b5, if_pos c9]; done) | contradiction, ht⟩) (fun _ h => nomatch h) dX11_manyOf_45
      · refine lv_iload_n hx hb dX11_manyOf_12 rfl (lv_at hl 3 rfl) ?_
        refine lv_aload_n hx hb dX11_manyOf_13 rfl (lv_at hl 0 rfl) ?_
        refine lv_iload hx hb dX11_manyOf_14 (lv_at hl 4 rfl) ?_
        refine lv_iconst (v := 0) hx hb dX11_manyOf_16 (by decide) ?_
        refine k_Si (va_runV (As := [.int (v4), .int (0)]) (rest := [.int (v3)]) ⟨hx, hb, hml, hown, hts⟩ (c_X11_get l E M S v4 0 (gx (hi.lt c9 (by decide)) (by decide))) (cwV 2 hts gX11_manyOf_X11_get rfl rfl rfl (by decide +kernel) ⟨Nat.le_of_ble_eq_true rfl, Nat.le_of_ble_eq_true rfl⟩) (gP.V (ci := 10) (q := (RX11, TX11, 23)) (q0 := 0) hE hS hW rfl rfl) rfl rfl hl.1 rfl (lv_room (Nat.le_of_ble_eq_true rfl)) dX11_manyOf_17 ⟨Nat.le_of_ble_eq_true rfl, Nat.le_of_ble_eq_true rfl⟩) (fun r17 er17 => ?_)
        refine lv_i2l (v := r17.toInt64) hx hb dX11_manyOf_20 rfl ?_
        refine lv_iload_n hx hb dX11_manyOf_21 rfl (lv_at hl 1 rfl) ?_
        refine lv_i2l (v := p1.toInt64) hx hb dX11_manyOf_22 rfl ?_
        refine lv_iload_n hx hb dX11_manyOf_23 rfl (lv_at hl 2 rfl) ?_
        refine lv_i2l (v := p2.toInt64) hx hb dX11_manyOf_24 rfl ?_
        refine k_Si (va_runS (As := [.long (r17.toInt64), .long (p1.toInt64), .long (p2.toInt64)]) (rest := [.int (v3)]) ⟨hx, hb, hml, hown, hts⟩ (c_X11_isIn l (r17.toInt64) (p1.toInt64) (p2.toInt64)) (va_cwS 3 hts gX11_manyOf_X11_isIn rfl rfl rfl (by decide +kernel) ⟨Nat.le_of_ble_eq_true rfl, Nat.le_of_ble_eq_true rfl⟩) gP0 rfl rfl hl.1 rfl (lv_room (Nat.le_of_ble_eq_true rfl)) dX11_manyOf_25 ⟨Nat.le_of_ble_eq_true rfl, Nat.le_of_ble_eq_true rfl⟩) (fun r25 er25 => ?_)
        refine lv_if_eq (tgt := 35) hx hb dX11_manyOf_28 (by decide) (fun c28 => ?_) (fun c28 => ?_)
        · refine lv_iconst (v := 0) hx hb dX11_manyOf_35 (by decide) ?_
          refine lv_iadd hx hb dX11_manyOf_36 ?_
          refine lv_topi (fun x37 ex37 => ?_)
          refine lv_istore_n (lv' := [(3, .int (x37)), (0, .ref (eM E 0)), (1, .int (p1)), (2, .int (p2)), (4, .int (v4))]) hx hb dX11_manyOf_37 rfl hl (by decide) rfl (fun ls hl => ?_)
          obtain ⟨x38, ex38⟩ : ∃ y : Int32, y = v4 + 1 := ⟨_, rfl⟩
          refine lv_iinc (v := x38) (lv' := [(4, .int (x38)), (3, .int (x37)), (0, .ref (eM E 0)), (1, .int (p1)), (2, .int (p2))]) hx hb dX11_manyOf_38 hl (k := 4) rfl (by rw [ex38]; rfl) (by decide) rfl (fun ls hl => ?_)
          refine lv_goto (tgt := 5) hx hb dX11_manyOf_41 (by decide) ?_
          exact ih _ _ _ (by exact hi.st c9 (by decide) ex38) (by rw [hq]; subst ex38; subst ex37; subst er25; subst er17; first | (simp only [q_X11_manyOf_b5, if_neg c9, if_pos c28]; done) | contradiction) (lv_sub hl [2, 3, 4, 1, 0] rfl)
        · refine lv_iconst (v := 1) hx hb dX11_manyOf_31 (by decide) ?_
          refine lv_goto (tgt := 36) hx hb dX11_manyOf_32 (by decide) ?_
          refine lv_iadd hx hb dX11_manyOf_36 ?_
          refine lv_topi (fun x37 ex37 => ?_)
          refine lv_istore_n (lv' := [(3, .int (x37)), (0, .ref (eM E 0)), (1, .int (p1)), (2, .int (p2)), (4, .int (v4))]) hx hb dX11_manyOf_37 rfl hl (by decide) rfl (fun ls hl => ?_)
          obtain ⟨x38, ex38⟩ : ∃ y : Int32, y = v4 + 1 := ⟨_, rfl⟩
          refine lv_iinc (v := x38) (lv' := [(4, .int (x38)), (3, .int (x37)), (0, .ref (eM E 0)), (1, .int (p1)), (2, .int (p2))]) hx hb dX11_manyOf_38 hl (k := 4) rfl (by rw [ex38]; rfl) (by decide) rfl (fun ls hl => ?_)
          refine lv_goto (tgt := 5) hx hb dX11_manyOf_41 (by decide) ?_
          exact ih _ _ _ (by exact hi.st c9 (by decide) ex38) (by rw [hq]; subst ex38; subst ex37; subst er25; subst er17; first | (simp only [q_X11_manyOf_b5, if_neg c9, if_neg c28]; done) | contradiction) (lv_sub hl [2, 3, 4, 1, 0] rfl)
  refine lv_iconst (v := 0) hx hb dX11_manyOf_0 (by decide) ?_
  refine lv_istore_n (lv' := [(3, .int (0)), (0, .ref (eM E 0)), (1, .int (p1)), (2, .int (p2))]) hx hb dX11_manyOf_1 rfl hl (by decide) rfl (fun ls hl => ?_)
  refine lv_iconst (v := 0) hx hb dX11_manyOf_2 (by decide) ?_
  refine lv_istore (lv' := [(4, .int (0)), (3, .int (0)), (0, .ref (eM E 0)), (1, .int (p1)), (2, .int (p2))]) hx hb dX11_manyOf_3 hl (by decide) rfl (fun ls hl => ?_)
  exact L5 41 _ _ _ (by exact gL.i 40) (by first | (simp only [q_X11_manyOf]; done) | contradiction) (lv_sub hl [2, 3, 4, 1, 0] rfl)

def q_X11_count (M : gSm) (p1 : Int32) : Int32 := (if p1 = 0 then (let r48 := q_X11_manyOf M 1 6; r48) else if p1 = 1 then (let r56 := q_X11_manyOf M 2 6; r56) else if p1 = 2 then (let r63 := q_X11_manyOf M 1 1; r63) else if p1 = 3 then M.1 0 6 else if p1 = 4 then M.1 0 8 else if p1 = 5 then M.1 0 3 else if p1 = 6 then M.1 0 10 else (-2000000001))
set_option maxHeartbeats 4000000 in
set_option maxRecDepth 100000 in
theorem c_X11_count (l : Launch) (E : gEE) (M : gSm) (S : gSc) (p1 : Int32)  : Met l yX11_count wsX11_count ({ frames := 2, cells := 0, slots := 0, locals := 49 }) (va_Pc [.ref (eM E 0), .int (p1)] (gP E M S)) (vp_Si (fun r => r = q_X11_count M p1)) 0 0 (fun _ => False) := by
  refine Met.ofW (cc := cX11_count) (maxL := 2) (ret := (some .int)) (by decide) rfl ?_
  intro p e s m args below meth c s₁ B hml hv
  obtain ⟨rfl, hE, hW⟩ := hv
  have hx := B.exec
  have hb := B.bytes
  have hr := B.returns
  have hts := atoms_spec (ws := wsX11_count) B.pre
  have hown : s.vm.findClass RX11 = some m.cls := findClass_of_methodNamed B.named
  have hlocks := B.notSynchronized
  have hinX11 : ∀ w ∈ wsX110, w ∈ wsX11_count := by decide +kernel
  have hS : va_S (eA E) s.heap s.heap [] := va_S.rf
  have hl := lv_entry ([.ref (eM E 0), .int (p1)]) (n := 2) (Nat.le_of_ble_eq_true rfl)
  rw [lg_entry_eq]
  generalize (lg_sl ([.ref (eM E 0), .int (p1)]) ++ List.replicate (2 - (lg_sl ([.ref (eM E 0), .int (p1)])).length) Slot.unset).toArray = ls at hl ⊢
  have hl : lv_has ls 2 [(0, .ref (eM E 0)), (1, .int (p1))] := hl
  refine lv_iload_n hx hb dX11_count_0 rfl (lv_at hl 1 rfl) ?_
  by_cases c1_0 : p1 = 0
  · refine lv_tableIn (tgt := 44) (off := 43) hx hb dX11_count_1 (by rw [c1_0]; decide) (by rw [c1_0]; decide) (by rw [c1_0]; rfl) (by decide) ?_
    refine lv_aload_n hx hb dX11_count_44 rfl (lv_at hl 0 rfl) ?_
    refine lv_iconst (v := 1) hx hb dX11_count_45 (by decide) ?_
    refine lv_bipush (v := 6) hx hb dX11_count_46 (by decide) ?_
    refine k_Si (va_runV (As := [.int (1), .int (6)]) (rest := []) ⟨hx, hb, hml, hown, hts⟩ (c_X11_manyOf l E M S 1 6) (cwV 2 hts gX11_count_X11_manyOf rfl rfl rfl (by decide +kernel) ⟨Nat.le_of_ble_eq_true rfl, Nat.le_of_ble_eq_true rfl⟩) (gP.V (ci := 10) (q := (RX11, TX11, 23)) (q0 := 0) hE hS hW rfl rfl) rfl rfl hl.1 rfl (lv_room (Nat.le_of_ble_eq_true rfl)) dX11_count_48 ⟨Nat.le_of_ble_eq_true rfl, Nat.le_of_ble_eq_true rfl⟩) (fun r48 er48 => ?_)
    exact W.iret (v := r48) hx hb hr (fun t ht _ => ⟨r48, rfl, by subst er48; first | (simp only [q_X11_count, if_pos c1_0]; done) | contradiction, ht⟩) (fun _ h => nomatch h) dX11_count_51
  by_cases c1_1 : p1 = 1
  · refine lv_tableIn (tgt := 52) (off := 51) hx hb dX11_count_1 (by rw [c1_1]; decide) (by rw [c1_1]; decide) (by rw [c1_1]; rfl) (by decide) ?_
    refine lv_aload_n hx hb dX11_count_52 rfl (lv_at hl 0 rfl) ?_
    refine lv_iconst (v := 2) hx hb dX11_count_53 (by decide) ?_
    refine lv_bipush (v := 6) hx hb dX11_count_54 (by decide) ?_
    refine k_Si (va_runV (As := [.int (2), .int (6)]) (rest := []) ⟨hx, hb, hml, hown, hts⟩ (c_X11_manyOf l E M S 2 6) (cwV 2 hts gX11_count_X11_manyOf rfl rfl rfl (by decide +kernel) ⟨Nat.le_of_ble_eq_true rfl, Nat.le_of_ble_eq_true rfl⟩) (gP.V (ci := 10) (q := (RX11, TX11, 23)) (q0 := 0) hE hS hW rfl rfl) rfl rfl hl.1 rfl (lv_room (Nat.le_of_ble_eq_true rfl)) dX11_count_56 ⟨Nat.le_of_ble_eq_true rfl, Nat.le_of_ble_eq_true rfl⟩) (fun r56 er56 => ?_)
    exact W.iret (v := r56) hx hb hr (fun t ht _ => ⟨r56, rfl, by subst er56; first | (simp only [q_X11_count, if_neg c1_0, if_pos c1_1]; done) | contradiction, ht⟩) (fun _ h => nomatch h) dX11_count_59
  by_cases c1_2 : p1 = 2
  · refine lv_tableIn (tgt := 60) (off := 59) hx hb dX11_count_1 (by rw [c1_2]; decide) (by rw [c1_2]; decide) (by rw [c1_2]; rfl) (by decide) ?_
    refine lv_aload_n hx hb dX11_count_60 rfl (lv_at hl 0 rfl) ?_
    refine lv_iconst (v := 1) hx hb dX11_count_61 (by decide) ?_
    refine lv_iconst (v := 1) hx hb dX11_count_62 (by decide) ?_
    refine k_Si (va_runV (As := [.int (1), .int (1)]) (rest := []) ⟨hx, hb, hml, hown, hts⟩ (c_X11_manyOf l E M S 1 1) (cwV 2 hts gX11_count_X11_manyOf rfl rfl rfl (by decide +kernel) ⟨Nat.le_of_ble_eq_true rfl, Nat.le_of_ble_eq_true rfl⟩) (gP.V (ci := 10) (q := (RX11, TX11, 23)) (q0 := 0) hE hS hW rfl rfl) rfl rfl hl.1 rfl (lv_room (Nat.le_of_ble_eq_true rfl)) dX11_count_63 ⟨Nat.le_of_ble_eq_true rfl, Nat.le_of_ble_eq_true rfl⟩) (fun r63 er63 => ?_)
    exact W.iret (v := r63) hx hb hr (fun t ht _ => ⟨r63, rfl, by subst er63; first | (simp only [q_X11_count, if_neg c1_0, if_neg c1_1, if_pos c1_2]; done) | contradiction, ht⟩) (fun _ h => nomatch h) dX11_count_66
  by_cases c1_3 : p1 = 3
  · refine lv_tableIn (tgt := 67) (off := 66) hx hb dX11_count_1 (by rw [c1_3]; decide) (by rw [c1_3]; decide) (by rw [c1_3]; rfl) (by decide) ?_
    refine lv_aload_n hx hb dX11_count_67 rfl (lv_at hl 0 rfl) ?_
    refine va_get (D := eD E) (cl := vwCl) (tys := eT E) (ci := 10) (C := RX11) (T := TX11) (N := 23) (v := .int (M.1 0 6)) hx hb hts hinX11 hown hE.1 hW.1 0 rfl rfl 6 (by decide) (hts (.fieldLink RX11 76 "DialGardenModel" "correctionCount" "I") (by decide +kernel)) (fun _ h9 => h9) rfl dX11_count_68 ?_
    exact W.iret (v := M.1 0 6) hx hb hr (fun t ht _ => ⟨M.1 0 6, rfl, by first | (simp only [q_X11_count, if_neg c1_0, if_neg c1_1, if_neg c1_2, if_pos c1_3]; done) | contradiction, ht⟩) (fun _ h => nomatch h) dX11_count_71
  by_cases c1_4 : p1 = 4
  · refine lv_tableIn (tgt := 72) (off := 71) hx hb dX11_count_1 (by rw [c1_4]; decide) (by rw [c1_4]; decide) (by rw [c1_4]; rfl) (by decide) ?_
    refine lv_aload_n hx hb dX11_count_72 rfl (lv_at hl 0 rfl) ?_
    refine va_get (D := eD E) (cl := vwCl) (tys := eT E) (ci := 10) (C := RX11) (T := TX11) (N := 23) (v := .int (M.1 0 8)) hx hb hts hinX11 hown hE.1 hW.1 0 rfl rfl 8 (by decide) (hts (.fieldLink RX11 250 "DialGardenModel" "sightCount" "I") (by decide +kernel)) (fun _ h9 => h9) rfl dX11_count_73 ?_
    exact W.iret (v := M.1 0 8) hx hb hr (fun t ht _ => ⟨M.1 0 8, rfl, by first | (simp only [q_X11_count, if_neg c1_0, if_neg c1_1, if_neg c1_2, if_neg c1_3, if_pos c1_4]; done) | contradiction, ht⟩) (fun _ h => nomatch h) dX11_count_76
  by_cases c1_5 : p1 = 5
  · refine lv_tableIn (tgt := 77) (off := 76) hx hb dX11_count_1 (by rw [c1_5]; decide) (by rw [c1_5]; decide) (by rw [c1_5]; rfl) (by decide) ?_
    refine lv_aload_n hx hb dX11_count_77 rfl (lv_at hl 0 rfl) ?_
    refine va_get (D := eD E) (cl := vwCl) (tys := eT E) (ci := 10) (C := RX11) (T := TX11) (N := 23) (v := .int (M.1 0 3)) hx hb hts hinX11 hown hE.1 hW.1 0 rfl rfl 3 (by decide) (hts (.fieldLink RX11 46 "DialGardenModel" "kept" "I") (by decide +kernel)) (fun _ h9 => h9) rfl dX11_count_78 ?_
    exact W.iret (v := M.1 0 3) hx hb hr (fun t ht _ => ⟨M.1 0 3, rfl, by first | (simp only [q_X11_count, if_neg c1_0, if_neg c1_1, if_neg c1_2, if_neg c1_3, if_neg c1_4, if_pos c1_5]; done) | contradiction, ht⟩) (fun _ h => nomatch h) dX11_count_81
  by_cases c1_6 : p1 = 6
  · refine lv_tableIn (tgt := 82) (off := 81) hx hb dX11_count_1 (by rw [c1_6]; decide) (by rw [c1_6]; decide) (by rw [c1_6]; rfl) (by decide) ?_
    refine lv_aload_n hx hb dX11_count_82 rfl (lv_at hl 0 rfl) ?_
    refine va_get (D := eD E) (cl := vwCl) (tys := eT E) (ci := 10) (C := RX11) (T := TX11) (N := 23) (v := .int (M.1 0 10)) hx hb hts hinX11 hown hE.1 hW.1 0 rfl rfl 10 (by decide) (hts (.fieldLink RX11 254 "DialGardenModel" "turnCount" "I") (by decide +kernel)) (fun _ h9 => h9) rfl dX11_count_83 ?_
    exact W.iret (v := M.1 0 10) hx hb hr (fun t ht _ => ⟨M.1 0 10, rfl, by first | (simp only [q_X11_count, if_neg c1_0, if_neg c1_1, if_neg c1_2, if_neg c1_3, if_neg c1_4, if_neg c1_5, if_pos c1_6]; done) | contradiction, ht⟩) (fun _ h => nomatch h) dX11_count_86
  refine lv_tableOut (tgt := 87) hx hb dX11_count_1 (sw_out6 c1_0 c1_1 c1_2 c1_3 c1_4 c1_5 c1_6) (by decide) ?_
  refine lv_ldc hx hb (v := (-2000000001)) hown (hts (.constant RX11 73 (-2000000001)) (by decide +kernel)) dX11_count_87 ?_
  exact W.iret (v := (-2000000001)) hx hb hr (fun t ht _ => ⟨(-2000000001), rfl, by first | (simp only [q_X11_count, if_neg c1_0, if_neg c1_1, if_neg c1_2, if_neg c1_3, if_neg c1_4, if_neg c1_5, if_neg c1_6]; done) | contradiction, ht⟩) (fun _ h => nomatch h) dX11_count_89

def q_X11_sight (M : gSm) (p1 : Int32) (p2 : Int32) (p3 : Int32) (p4 : Int32) : Int32 × gSm := (let r2 := q_X11_isTime p1 p2; (if r2 = 0 then ((-2000000001), M) else (let r16 := q_X11_isIn (p3.toInt64) (-1000000) 1000000; (if r16 = 0 then ((-2000000001), M) else (let r31 := q_X11_isIn (p4.toInt64) (-1000000) 1000000; (if r31 = 0 then ((-2000000001), M) else (if (M.1 0 8) = 20 then ((-2000000003), M) else ((M.1 0 8) + 1, pM (pM (pM (pM (pM M 5 ((4 * (M.1 0 8)).toNatClampNeg) p1) 5 (((4 * (M.1 0 8)) + 1).toNatClampNeg) p2) 5 (((4 * (M.1 0 8)) + 2).toNatClampNeg) p3) 5 (((4 * (M.1 0 8)) + 3).toNatClampNeg) p4) 0 8 ((M.1 0 8) + 1)))))))))
set_option maxHeartbeats 4000000 in
set_option maxRecDepth 100000 in
theorem c_X11_sight (l : Launch) (E : gEE) (M : gSm) (S : gSc) (p1 : Int32) (p2 : Int32) (p3 : Int32) (p4 : Int32) (hs0 : 0 ≤ (M.1 0 8).toInt) (hs : (M.1 0 8).toInt ≤ 20) : Met l yX11_sight wsX11_sight ({ frames := 2, cells := 0, slots := 0, locals := 46 }) (va_Pc [.ref (eM E 0), .int (p1), .int (p2), .int (p3), .int (p4)] (gP E M S)) (va_Qi (fun r (u : gSm) => (r, u) = q_X11_sight M p1 p2 p3 p4) (fun u t => gW E u S t.heap) (eA E)) 0 0 (eA E) := by
  refine Met.ofW (cc := cX11_sight) (maxL := 5) (ret := (some .int)) (by decide) rfl ?_
  intro p e s m args below meth c s₁ B hml hv
  obtain ⟨rfl, hE, hW⟩ := hv
  have hx := B.exec
  have hb := B.bytes
  have hr := B.returns
  have hts := atoms_spec (ws := wsX11_sight) B.pre
  have hown : s.vm.findClass RX11 = some m.cls := findClass_of_methodNamed B.named
  have hlocks := B.notSynchronized
  have hinX11 : ∀ w ∈ wsX110, w ∈ wsX11_sight := by decide +kernel
  have hS : va_S (eA E) s.heap s.heap [] := va_S.rf
  have hl := lv_entry ([.ref (eM E 0), .int (p1), .int (p2), .int (p3), .int (p4)]) (n := 5) (Nat.le_of_ble_eq_true rfl)
  rw [lg_entry_eq]
  generalize (lg_sl ([.ref (eM E 0), .int (p1), .int (p2), .int (p3), .int (p4)]) ++ List.replicate (5 - (lg_sl ([.ref (eM E 0), .int (p1), .int (p2), .int (p3), .int (p4)])).length) Slot.unset).toArray = ls at hl ⊢
  have hl : lv_has ls 5 [(0, .ref (eM E 0)), (1, .int (p1)), (2, .int (p2)), (3, .int (p3)), (4, .int (p4))] := hl
  have hS : ∃ (H : Heap) (locs : List Loc), H = s.heap ∧ locs = [] ∧ gW E M S H ∧ va_S (eA E) s.heap H locs := ⟨_, _, rfl, rfl, hW, hS⟩
  clear hW
  obtain ⟨H, locs, eH, el, hW, hS⟩ := hS
  rw [← eH, ← el]
  clear eH el
  refine lv_iload_n hx hb dX11_sight_0 rfl (lv_at hl 1 rfl) ?_
  refine lv_iload_n hx hb dX11_sight_1 rfl (lv_at hl 2 rfl) ?_
  refine k_Si (va_runS (As := [.int (p1), .int (p2)]) (rest := []) ⟨hx, hb, hml, hown, hts⟩ (c_X11_isTime l p1 p2) (va_cwS 2 hts gX11_sight_X11_isTime rfl rfl rfl (by decide +kernel) ⟨Nat.le_of_ble_eq_true rfl, Nat.le_of_ble_eq_true rfl⟩) gP0 rfl rfl hl.1 rfl (lv_room (Nat.le_of_ble_eq_true rfl)) dX11_sight_2 ⟨Nat.le_of_ble_eq_true rfl, Nat.le_of_ble_eq_true rfl⟩) (fun r2 er2 => ?_)
  refine lv_if_eq (tgt := 37) hx hb dX11_sight_5 (by decide) (fun c5 => ?_) (fun c5 => ?_)
  · refine lv_ldc hx hb (v := (-2000000001)) hown (hts (.constant RX11 73 (-2000000001)) (by decide +kernel)) dX11_sight_37 ?_
    exact W.iret (v := (-2000000001)) hx hb hr (fun t ht _ => ⟨⟨(-2000000001), M, rfl, by subst er2; first | (simp only [q_X11_sight, if_pos c5]; done) | contradiction, by dsimp only; rw [ht]; exact hW⟩, hS.F ht⟩) hS.2.2 dX11_sight_39
  · refine lv_iload_n hx hb dX11_sight_8 rfl (lv_at hl 3 rfl) ?_
    refine lv_i2l (v := p3.toInt64) hx hb dX11_sight_9 rfl ?_
    refine lv_ldc2 hx hb (v := (-1000000)) hown (hts (.constantLong RX11 206 (-1000000)) (by decide +kernel)) dX11_sight_10 ?_
    refine lv_ldc2 hx hb (v := 1000000) hown (hts (.constantLong RX11 208 (1000000)) (by decide +kernel)) dX11_sight_13 ?_
    refine k_Si (va_runS (As := [.long (p3.toInt64), .long ((-1000000)), .long (1000000)]) (rest := []) ⟨hx, hb, hml, hown, hts⟩ (c_X11_isIn l (p3.toInt64) (-1000000) 1000000) (va_cwS 3 hts gX11_sight_X11_isIn rfl rfl rfl (by decide +kernel) ⟨Nat.le_of_ble_eq_true rfl, Nat.le_of_ble_eq_true rfl⟩) gP0 rfl rfl hl.1 rfl (lv_room (Nat.le_of_ble_eq_true rfl)) dX11_sight_16 ⟨Nat.le_of_ble_eq_true rfl, Nat.le_of_ble_eq_true rfl⟩) (fun r16 er16 => ?_)
    refine lv_if_eq (tgt := 37) hx hb dX11_sight_19 (by decide) (fun c19 => ?_) (fun c19 => ?_)
    · refine lv_ldc hx hb (v := (-2000000001)) hown (hts (.constant RX11 73 (-2000000001)) (by decide +kernel)) dX11_sight_37 ?_
      exact W.iret (v := (-2000000001)) hx hb hr (fun t ht _ => ⟨⟨(-2000000001), M, rfl, by subst er16; subst er2; first | (simp only [q_X11_sight, if_neg c5, if_pos c19]; done) | contradiction, by dsimp only; rw [ht]; exact hW⟩, hS.F ht⟩) hS.2.2 dX11_sight_39
    · refine lv_iload hx hb dX11_sight_22 (lv_at hl 4 rfl) ?_
      refine lv_i2l (v := p4.toInt64) hx hb dX11_sight_24 rfl ?_
      refine lv_ldc2 hx hb (v := (-1000000)) hown (hts (.constantLong RX11 206 (-1000000)) (by decide +kernel)) dX11_sight_25 ?_
      refine lv_ldc2 hx hb (v := 1000000) hown (hts (.constantLong RX11 208 (1000000)) (by decide +kernel)) dX11_sight_28 ?_
      refine k_Si (va_runS (As := [.long (p4.toInt64), .long ((-1000000)), .long (1000000)]) (rest := []) ⟨hx, hb, hml, hown, hts⟩ (c_X11_isIn l (p4.toInt64) (-1000000) 1000000) (va_cwS 3 hts gX11_sight_X11_isIn rfl rfl rfl (by decide +kernel) ⟨Nat.le_of_ble_eq_true rfl, Nat.le_of_ble_eq_true rfl⟩) gP0 rfl rfl hl.1 rfl (lv_room (Nat.le_of_ble_eq_true rfl)) dX11_sight_31 ⟨Nat.le_of_ble_eq_true rfl, Nat.le_of_ble_eq_true rfl⟩) (fun r31 er31 => ?_)
      refine lv_if_ne (tgt := 40) hx hb dX11_sight_34 (by decide) (fun c34 => ?_) (fun c34 => ?_)
      · refine lv_aload_n hx hb dX11_sight_40 rfl (lv_at hl 0 rfl) ?_
        refine va_get (D := eD E) (cl := vwCl) (tys := eT E) (ci := 10) (C := RX11) (T := TX11) (N := 23) (v := .int (M.1 0 8)) hx hb hts hinX11 hown hE.1 hW.1 0 rfl rfl 8 (by decide) (hts (.fieldLink RX11 250 "DialGardenModel" "sightCount" "I") (by decide +kernel)) (fun _ h9 => h9) rfl dX11_sight_41 ?_
        refine lv_bipush (v := 20) hx hb dX11_sight_44 (by decide) ?_
        refine lv_icmp_ne (tgt := 52) hx hb dX11_sight_46 (by decide) (fun c46 => ?_) (fun c46 => ?_)
        · refine lv_aload_n hx hb dX11_sight_52 rfl (lv_at hl 0 rfl) ?_
          refine va_get (D := eD E) (cl := vwCl) (tys := eT E) (ci := 10) (C := RX11) (T := TX11) (N := 23) (v := .ref (eM E 5)) hx hb hts hinX11 hown hE.1 hW.1 0 rfl rfl 7 (by decide) (hts (.fieldLink RX11 26 "DialGardenModel" "sights" "[I") (by decide +kernel)) (fun _ h9 => h9) rfl dX11_sight_53 ?_
          refine lv_iconst (v := 4) hx hb dX11_sight_56 (by decide) ?_
          refine lv_aload_n hx hb dX11_sight_57 rfl (lv_at hl 0 rfl) ?_
          refine va_get (D := eD E) (cl := vwCl) (tys := eT E) (ci := 10) (C := RX11) (T := TX11) (N := 23) (v := .int (M.1 0 8)) hx hb hts hinX11 hown hE.1 hW.1 0 rfl rfl 8 (by decide) (hts (.fieldLink RX11 250 "DialGardenModel" "sightCount" "I") (by decide +kernel)) (fun _ h9 => h9) rfl dX11_sight_58 ?_
          refine lv_imul hx hb dX11_sight_61 ?_
          refine lv_iload_n hx hb dX11_sight_62 rfl (lv_at hl 1 rfl) ?_
          refine va_iast (D := eD E) (cl := vwCl) (tys := eT E) (A := eA E) (f := M.1 5) (x := p1) hx hb hE.1 hW.1 hW.2 hS 5 0 rfl rfl (si_in0 hs0 hs c46) dX11_sight_63 (fun H locs hP hD hS => ?_)
          have hW : gW E (pM M 5 ((4 * (M.1 0 8)).toNatClampNeg) p1) S H := gW.of (tM_I5 E M S (upd (M.1 5) ((4 * (M.1 0 8)).toNatClampNeg) p1)) hP hD
          refine lv_aload_n hx hb dX11_sight_64 rfl (lv_at hl 0 rfl) ?_
          refine va_get (D := eD E) (cl := vwCl) (tys := eT E) (ci := 10) (C := RX11) (T := TX11) (N := 23) (v := .ref (eM E 5)) hx hb hts hinX11 hown hE.1 hW.1 0 rfl rfl 7 (by decide) (hts (.fieldLink RX11 26 "DialGardenModel" "sights" "[I") (by decide +kernel)) (fun _ h9 => h9) rfl dX11_sight_65 ?_
          refine lv_iconst (v := 4) hx hb dX11_sight_68 (by decide) ?_
          refine lv_aload_n hx hb dX11_sight_69 rfl (lv_at hl 0 rfl) ?_
          refine va_get (D := eD E) (cl := vwCl) (tys := eT E) (ci := 10) (C := RX11) (T := TX11) (N := 23) (v := .int (M.1 0 8)) hx hb hts hinX11 hown hE.1 hW.1 0 rfl rfl 8 (by decide) (hts (.fieldLink RX11 250 "DialGardenModel" "sightCount" "I") (by decide +kernel)) (fun _ h9 => h9) rfl dX11_sight_70 ?_
          refine lv_imul hx hb dX11_sight_73 ?_
          refine lv_iconst (v := 1) hx hb dX11_sight_74 (by decide) ?_
          refine lv_iadd hx hb dX11_sight_75 ?_
          refine lv_iload_n hx hb dX11_sight_76 rfl (lv_at hl 2 rfl) ?_
          refine va_iast (D := eD E) (cl := vwCl) (tys := eT E) (A := eA E) (f := upd (M.1 5) ((4 * (M.1 0 8)).toNatClampNeg) p1) (x := p2) hx hb hE.1 hW.1 hW.2 hS 5 0 rfl rfl (si_in hs0 hs c46 (by decide)) dX11_sight_77 (fun H locs hP hD hS => ?_)
          have hW : gW E (pM (pM M 5 ((4 * (M.1 0 8)).toNatClampNeg) p1) 5 (((4 * (M.1 0 8)) + 1).toNatClampNeg) p2) S H := gW.of (tM_I5 E (pM M 5 ((4 * (M.1 0 8)).toNatClampNeg) p1) S (upd (upd (M.1 5) ((4 * (M.1 0 8)).toNatClampNeg) p1) (((4 * (M.1 0 8)) + 1).toNatClampNeg) p2)) hP hD
          refine lv_aload_n hx hb dX11_sight_78 rfl (lv_at hl 0 rfl) ?_
          refine va_get (D := eD E) (cl := vwCl) (tys := eT E) (ci := 10) (C := RX11) (T := TX11) (N := 23) (v := .ref (eM E 5)) hx hb hts hinX11 hown hE.1 hW.1 0 rfl rfl 7 (by decide) (hts (.fieldLink RX11 26 "DialGardenModel" "sights" "[I") (by decide +kernel)) (fun _ h9 => h9) rfl dX11_sight_79 ?_
          refine lv_iconst (v := 4) hx hb dX11_sight_82 (by decide) ?_
          refine lv_aload_n hx hb dX11_sight_83 rfl (lv_at hl 0 rfl) ?_
          refine va_get (D := eD E) (cl := vwCl) (tys := eT E) (ci := 10) (C := RX11) (T := TX11) (N := 23) (v := .int (M.1 0 8)) hx hb hts hinX11 hown hE.1 hW.1 0 rfl rfl 8 (by decide) (hts (.fieldLink RX11 250 "DialGardenModel" "sightCount" "I") (by decide +kernel)) (fun _ h9 => h9) rfl dX11_sight_84 ?_
          refine lv_imul hx hb dX11_sight_87 ?_
          refine lv_iconst (v := 2) hx hb dX11_sight_88 (by decide) ?_
          refine lv_iadd hx hb dX11_sight_89 ?_
          refine lv_iload_n hx hb dX11_sight_90 rfl (lv_at hl 3 rfl) ?_
          refine va_iast (D := eD E) (cl := vwCl) (tys := eT E) (A := eA E) (f := upd (upd (M.1 5) ((4 * (M.1 0 8)).toNatClampNeg) p1) (((4 * (M.1 0 8)) + 1).toNatClampNeg) p2) (x := p3) hx hb hE.1 hW.1 hW.2 hS 5 0 rfl rfl (si_in hs0 hs c46 (by decide)) dX11_sight_91 (fun H locs hP hD hS => ?_)
          have hW : gW E (pM (pM (pM M 5 ((4 * (M.1 0 8)).toNatClampNeg) p1) 5 (((4 * (M.1 0 8)) + 1).toNatClampNeg) p2) 5 (((4 * (M.1 0 8)) + 2).toNatClampNeg) p3) S H := gW.of (tM_I5 E (pM (pM M 5 ((4 * (M.1 0 8)).toNatClampNeg) p1) 5 (((4 * (M.1 0 8)) + 1).toNatClampNeg) p2) S (upd (upd (upd (M.1 5) ((4 * (M.1 0 8)).toNatClampNeg) p1) (((4 * (M.1 0 8)) + 1).toNatClampNeg) p2) (((4 * (M.1 0 8)) + 2).toNatClampNeg) p3)) hP hD
          refine lv_aload_n hx hb dX11_sight_92 rfl (lv_at hl 0 rfl) ?_
          refine va_get (D := eD E) (cl := vwCl) (tys := eT E) (ci := 10) (C := RX11) (T := TX11) (N := 23) (v := .ref (eM E 5)) hx hb hts hinX11 hown hE.1 hW.1 0 rfl rfl 7 (by decide) (hts (.fieldLink RX11 26 "DialGardenModel" "sights" "[I") (by decide +kernel)) (fun _ h9 => h9) rfl dX11_sight_93 ?_
          refine lv_iconst (v := 4) hx hb dX11_sight_96 (by decide) ?_
          refine lv_aload_n hx hb dX11_sight_97 rfl (lv_at hl 0 rfl) ?_
          refine va_get (D := eD E) (cl := vwCl) (tys := eT E) (ci := 10) (C := RX11) (T := TX11) (N := 23) (v := .int (M.1 0 8)) hx hb hts hinX11 hown hE.1 hW.1 0 rfl rfl 8 (by decide) (hts (.fieldLink RX11 250 "DialGardenModel" "sightCount" "I") (by decide +kernel)) (fun _ h9 => h9) rfl dX11_sight_98 ?_
          refine lv_imul hx hb dX11_sight_101 ?_
          refine lv_iconst (v := 3) hx hb dX11_sight_102 (by decide) ?_
          refine lv_iadd hx hb dX11_sight_103 ?_
          refine lv_iload hx hb dX11_sight_104 (lv_at hl 4 rfl) ?_
          refine va_iast (D := eD E) (cl := vwCl) (tys := eT E) (A := eA E) (f := upd (upd (upd (M.1 5) ((4 * (M.1 0 8)).toNatClampNeg) p1) (((4 * (M.1 0 8)) + 1).toNatClampNeg) p2) (((4 * (M.1 0 8)) + 2).toNatClampNeg) p3) (x := p4) hx hb hE.1 hW.1 hW.2 hS 5 0 rfl rfl (si_in hs0 hs c46 (by decide)) dX11_sight_106 (fun H locs hP hD hS => ?_)
          have hW : gW E (pM (pM (pM (pM M 5 ((4 * (M.1 0 8)).toNatClampNeg) p1) 5 (((4 * (M.1 0 8)) + 1).toNatClampNeg) p2) 5 (((4 * (M.1 0 8)) + 2).toNatClampNeg) p3) 5 (((4 * (M.1 0 8)) + 3).toNatClampNeg) p4) S H := gW.of (tM_I5 E (pM (pM (pM M 5 ((4 * (M.1 0 8)).toNatClampNeg) p1) 5 (((4 * (M.1 0 8)) + 1).toNatClampNeg) p2) 5 (((4 * (M.1 0 8)) + 2).toNatClampNeg) p3) S (upd (upd (upd (upd (M.1 5) ((4 * (M.1 0 8)).toNatClampNeg) p1) (((4 * (M.1 0 8)) + 1).toNatClampNeg) p2) (((4 * (M.1 0 8)) + 2).toNatClampNeg) p3) (((4 * (M.1 0 8)) + 3).toNatClampNeg) p4)) hP hD
          refine lv_aload_n hx hb dX11_sight_107 rfl (lv_at hl 0 rfl) ?_
          refine lv_dup hx hb dX11_sight_108 rfl ?_
          refine va_get (D := eD E) (cl := vwCl) (tys := eT E) (ci := 10) (C := RX11) (T := TX11) (N := 23) (v := .int (M.1 0 8)) hx hb hts hinX11 hown hE.1 hW.1 0 rfl rfl 8 (by decide) (hts (.fieldLink RX11 250 "DialGardenModel" "sightCount" "I") (by decide +kernel)) (fun _ h9 => h9) rfl dX11_sight_109 ?_
          refine lv_iconst (v := 1) hx hb dX11_sight_112 (by decide) ?_
          refine lv_iadd hx hb dX11_sight_113 ?_
          refine va_put (D := eD E) (cl := vwCl) (tys := eT E) (A := eA E) (ci := 10) (C := RX11) (T := TX11) (N := 23) (v := .int ((M.1 0 8) + 1)) (ty := .int) hx hb hts hinX11 tyX11 tyX11_ok nmX11 hown hE.1 hW.1 hW.2 hS 0 rfl rfl 8 (by decide) (hts (.fieldLink RX11 250 "DialGardenModel" "sightCount" "I") (by decide +kernel)) (fun _ h9 => h9) rfl (by decide +kernel) rfl rfl (Nat.le_of_ble_eq_true rfl) dX11_sight_114 (fun H locs hP hD hS => ?_)
          have hW : gW E (pM (pM (pM (pM (pM M 5 ((4 * (M.1 0 8)).toNatClampNeg) p1) 5 (((4 * (M.1 0 8)) + 1).toNatClampNeg) p2) 5 (((4 * (M.1 0 8)) + 2).toNatClampNeg) p3) 5 (((4 * (M.1 0 8)) + 3).toNatClampNeg) p4) 0 8 ((M.1 0 8) + 1)) S H := gW.of (uM_0_8 E (pM (pM (pM (pM M 5 ((4 * (M.1 0 8)).toNatClampNeg) p1) 5 (((4 * (M.1 0 8)) + 1).toNatClampNeg) p2) 5 (((4 * (M.1 0 8)) + 2).toNatClampNeg) p3) 5 (((4 * (M.1 0 8)) + 3).toNatClampNeg) p4) S ((M.1 0 8) + 1)) hP hD
          refine lv_aload_n hx hb dX11_sight_117 rfl (lv_at hl 0 rfl) ?_
          refine va_get (D := eD E) (cl := vwCl) (tys := eT E) (ci := 10) (C := RX11) (T := TX11) (N := 23) (v := .int ((M.1 0 8) + 1)) hx hb hts hinX11 hown hE.1 hW.1 0 rfl rfl 8 (by decide) (hts (.fieldLink RX11 250 "DialGardenModel" "sightCount" "I") (by decide +kernel)) (fun _ h9 => h9) rfl dX11_sight_118 ?_
          exact W.iret (v := (M.1 0 8) + 1) hx hb hr (fun t ht _ => ⟨⟨(M.1 0 8) + 1, pM (pM (pM (pM (pM M 5 ((4 * (M.1 0 8)).toNatClampNeg) p1) 5 (((4 * (M.1 0 8)) + 1).toNatClampNeg) p2) 5 (((4 * (M.1 0 8)) + 2).toNatClampNeg) p3) 5 (((4 * (M.1 0 8)) + 3).toNatClampNeg) p4) 0 8 ((M.1 0 8) + 1), rfl, by subst er31; subst er16; subst er2; first | (simp only [q_X11_sight, if_neg c5, if_neg c19, if_neg c34, if_neg c46]; done) | contradiction, by dsimp only; rw [ht]; exact hW⟩, hS.F ht⟩) hS.2.2 dX11_sight_121
        · refine lv_ldc hx hb (v := (-2000000003)) hown (hts (.constant RX11 253 (-2000000003)) (by decide +kernel)) dX11_sight_49 ?_
          exact W.iret (v := (-2000000003)) hx hb hr (fun t ht _ => ⟨⟨(-2000000003), M, rfl, by subst er31; subst er16; subst er2; first | (simp only [q_X11_sight, if_neg c5, if_neg c19, if_neg c34, if_pos c46]; done) | contradiction, by dsimp only; rw [ht]; exact hW⟩, hS.F ht⟩) hS.2.2 dX11_sight_51
      · refine lv_ldc hx hb (v := (-2000000001)) hown (hts (.constant RX11 73 (-2000000001)) (by decide +kernel)) dX11_sight_37 ?_
        exact W.iret (v := (-2000000001)) hx hb hr (fun t ht _ => ⟨⟨(-2000000001), M, rfl, by subst er31; subst er16; subst er2; first | (simp only [q_X11_sight, if_neg c5, if_neg c19, if_pos c34]; done) | contradiction, by dsimp only; rw [ht]; exact hW⟩, hS.F ht⟩) hS.2.2 dX11_sight_39

def q_X11_forget (M : gSm)  : Int32 × gSm := (let x4 := M.1 0 8; (x4, pM M 0 8 0))
set_option maxHeartbeats 4000000 in
set_option maxRecDepth 100000 in
theorem c_X11_forget (l : Launch) (E : gEE) (M : gSm) (S : gSc)   : Met l yX11_forget wsX11_forget ({ frames := 0, cells := 0, slots := 0, locals := 0 }) (va_Pc [.ref (eM E 0)] (gP E M S)) (va_Qi (fun r (u : gSm) => (r, u) = q_X11_forget M) (fun u t => gW E u S t.heap) (eA E)) 0 0 (eA E) := by
  refine Met.ofW (cc := cX11_forget) (maxL := 2) (ret := (some .int)) (by decide) rfl ?_
  intro p e s m args below meth c s₁ B hml hv
  obtain ⟨rfl, hE, hW⟩ := hv
  have hx := B.exec
  have hb := B.bytes
  have hr := B.returns
  have hts := atoms_spec (ws := wsX11_forget) B.pre
  have hown : s.vm.findClass RX11 = some m.cls := findClass_of_methodNamed B.named
  have hlocks := B.notSynchronized
  have hinX11 : ∀ w ∈ wsX110, w ∈ wsX11_forget := by decide +kernel
  have hS : va_S (eA E) s.heap s.heap [] := va_S.rf
  have hl := lv_entry ([.ref (eM E 0)]) (n := 2) (Nat.le_of_ble_eq_true rfl)
  rw [lg_entry_eq]
  generalize (lg_sl ([.ref (eM E 0)]) ++ List.replicate (2 - (lg_sl ([.ref (eM E 0)])).length) Slot.unset).toArray = ls at hl ⊢
  have hl : lv_has ls 2 [(0, .ref (eM E 0))] := hl
  have hS : ∃ (H : Heap) (locs : List Loc), H = s.heap ∧ locs = [] ∧ gW E M S H ∧ va_S (eA E) s.heap H locs := ⟨_, _, rfl, rfl, hW, hS⟩
  clear hW
  obtain ⟨H, locs, eH, el, hW, hS⟩ := hS
  rw [← eH, ← el]
  clear eH el
  refine lv_aload_n hx hb dX11_forget_0 rfl (lv_at hl 0 rfl) ?_
  refine va_get (D := eD E) (cl := vwCl) (tys := eT E) (ci := 10) (C := RX11) (T := TX11) (N := 23) (v := .int (M.1 0 8)) hx hb hts hinX11 hown hE.1 hW.1 0 rfl rfl 8 (by decide) (hts (.fieldLink RX11 250 "DialGardenModel" "sightCount" "I") (by decide +kernel)) (fun _ h9 => h9) rfl dX11_forget_1 ?_
  refine lv_topi (fun x4 ex4 => ?_)
  refine lv_istore_n (lv' := [(1, .int (x4)), (0, .ref (eM E 0))]) hx hb dX11_forget_4 rfl hl (by decide) rfl (fun ls hl => ?_)
  refine lv_aload_n hx hb dX11_forget_5 rfl (lv_at hl 1 rfl) ?_
  refine lv_iconst (v := 0) hx hb dX11_forget_6 (by decide) ?_
  refine va_put (D := eD E) (cl := vwCl) (tys := eT E) (A := eA E) (ci := 10) (C := RX11) (T := TX11) (N := 23) (v := .int (0)) (ty := .int) hx hb hts hinX11 tyX11 tyX11_ok nmX11 hown hE.1 hW.1 hW.2 hS 0 rfl rfl 8 (by decide) (hts (.fieldLink RX11 250 "DialGardenModel" "sightCount" "I") (by decide +kernel)) (fun _ h9 => h9) rfl (by decide +kernel) rfl rfl (Nat.le_of_ble_eq_true rfl) dX11_forget_7 (fun H locs hP hD hS => ?_)
  have hW : gW E (pM M 0 8 0) S H := gW.of (uM_0_8 E M S 0) hP hD
  refine lv_iload_n hx hb dX11_forget_10 rfl (lv_at hl 0 rfl) ?_
  exact W.iret (v := x4) hx hb hr (fun t ht _ => ⟨⟨x4, pM M 0 8 0, rfl, by subst ex4; first | (simp only [q_X11_forget]; done) | contradiction, by dsimp only; rw [ht]; exact hW⟩, hS.F ht⟩) hS.2.2 dX11_forget_11
