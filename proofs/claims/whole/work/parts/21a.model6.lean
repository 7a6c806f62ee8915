def q_X11_read (M : gSm) (p1 : Int32) (p2 : Int32) (p3 : Int32) (p4 : Int32) : Int32 × gSm := (let r7 := q_X11_isIn (p4.toInt64) 0 2; (if r7 = 0 then ((-2000000001), M) else (let r17 := q_X11_ask M p1 p2 p3; (if 0 ≤ r17 then (let M38 := q_X11_findMarks M p1 p2; (let r45 := (q_X11_isRead M38 p1 p2 p3).1; let M45 := (q_X11_isRead M38 p1 p2 p3).2; (if r45 = 0 then ((-2000000005), M45) else (if p4 = 0 then (M45.1 0 20, M45) else (if p4 = 1 then (M45.1 0 21, M45) else ((M45.2 0 22).toInt32, M45)))))) else (r17, M)))))
set_option maxHeartbeats 4000000 in
set_option maxRecDepth 100000 in
theorem c_X11_read (l : Launch) (E : gEE) (M : gSm) (S : gSc) (p1 : Int32) (p2 : Int32) (p3 : Int32) (p4 : Int32) (hc : (M.1 0 6).toInt ≤ 366) : Met l yX11_read wsX11_read ({ frames := 7, cells := 0, slots := 0, locals := 185 }) (va_Pc [.ref (eM E 0), .int (p1), .int (p2), .int (p3), .int (p4)] (gP E M S)) (va_Qi (fun r (u : gSm) => (r, u) = q_X11_read M p1 p2 p3 p4) (fun u t => gW E u S t.heap) (eA E)) 0 0 (eA E) := by
  refine Met.ofW (cc := cX11_read) (maxL := 6) (ret := (some .int)) (by decide) rfl ?_
  intro p e s m args below meth c s₁ B hml hv
  obtain ⟨rfl, hE, hW⟩ := hv
  have hx := B.exec
  have hb := B.bytes
  have hr := B.returns
  have hts := atoms_spec (ws := wsX11_read) B.pre
  have hown : s.vm.findClass RX11 = some m.cls := findClass_of_methodNamed B.named
  have hlocks := B.notSynchronized
  have hinX11 : ∀ w ∈ wsX110, w ∈ wsX11_read := by decide +kernel
  have hS : va_S (eA E) s.heap s.heap [] := va_S.rf
  have hl := lv_entry ([.ref (eM E 0), .int (p1), .int (p2), .int (p3), .int (p4)]) (n := 6) (Nat.le_of_ble_eq_true rfl)
  rw [lg_entry_eq]
  generalize (lg_sl ([.ref (eM E 0), .int (p1), .int (p2), .int (p3), .int (p4)]) ++ List.replicate (6 - (lg_sl ([.ref (eM E 0), .int (p1), .int (p2), .int (p3), .int (p4)])).length) Slot.unset).toArray = ls at hl ⊢
  have hl : lv_has ls 6 [(0, .ref (eM E 0)), (1, .int (p1)), (2, .int (p2)), (3, .int (p3)), (4, .int (p4))] := hl
  have hS : ∃ (H : Heap) (locs : List Loc), H = s.heap ∧ locs = [] ∧ gW E M S H ∧ va_S (eA E) s.heap H locs := ⟨_, _, rfl, rfl, hW, hS⟩
  clear hW
  obtain ⟨H, locs, eH, el, hW, hS⟩ := hS
  rw [← eH, ← el]
  clear eH el
  refine lv_iload hx hb dX11_read_0 (lv_at hl 4 rfl) ?_
  refine lv_i2l (v := p4.toInt64) hx hb dX11_read_2 rfl ?_
  refine lv_lconst (v := 0) hx hb dX11_read_3 (by decide) ?_
  refine lv_ldc2 hx hb (v := 2) hown (hts (.constantLong RX11 184 (2)) (by decide +kernel)) dX11_read_4 ?_
  refine k_Si (va_runS (As := [.long (p4.toInt64), .long (0), .long (2)]) (rest := []) ⟨hx, hb, hml, hown, hts⟩ (c_X11_isIn l (p4.toInt64) 0 2) (va_cwS 3 hts gX11_read_X11_isIn rfl rfl rfl (by decide +kernel) ⟨Nat.le_of_ble_eq_true rfl, Nat.le_of_ble_eq_true rfl⟩) gP0 rfl rfl hl.1 rfl (lv_room (Nat.le_of_ble_eq_true rfl)) dX11_read_7 ⟨Nat.le_of_ble_eq_true rfl, Nat.le_of_ble_eq_true rfl⟩) (fun r7 er7 => ?_)
  refine lv_if_eq (tgt := 23) hx hb dX11_read_10 (by decide) (fun c10 => ?_) (fun c10 => ?_)
  · refine lv_ldc hx hb (v := (-2000000001)) hown (hts (.constant RX11 73 (-2000000001)) (by decide +kernel)) dX11_read_23 ?_
    refine lv_istore (lv' := [(5, .int ((-2000000001))), (0, .ref (eM E 0)), (1, .int (p1)), (2, .int (p2)), (3, .int (p3)), (4, .int (p4))]) hx hb dX11_read_25 hl (by decide) rfl (fun ls hl => ?_)
    refine lv_iload hx hb dX11_read_27 (lv_at hl 0 rfl) ?_
    refine lv_if_ge (tgt := 35) hx hb dX11_read_29 (by decide) (fun c29 => ?_) (fun c29 => ?_)
    · exact absurd c29 (by decide)
    · refine lv_iload hx hb dX11_read_32 (lv_at hl 0 rfl) ?_
      exact W.iret (v := (-2000000001)) hx hb hr (fun t ht _ => ⟨⟨(-2000000001), M, rfl, by subst er7; first | (simp only [q_X11_read, if_pos c10]; done) | contradiction, by dsimp only; rw [ht]; exact hW⟩, hS.F ht⟩) hS.2.2 dX11_read_34
  · refine lv_aload_n hx hb dX11_read_13 rfl (lv_at hl 0 rfl) ?_
    refine lv_iload_n hx hb dX11_read_14 rfl (lv_at hl 1 rfl) ?_
    refine lv_iload_n hx hb dX11_read_15 rfl (lv_at hl 2 rfl) ?_
    refine lv_iload_n hx hb dX11_read_16 rfl (lv_at hl 3 rfl) ?_
    refine k_Si (va_runV (As := [.int (p1), .int (p2), .int (p3)]) (rest := []) ⟨hx, hb, hml, hown, hts⟩ (c_X11_ask l E M S p1 p2 p3) (cwV 3 hts gX11_read_X11_ask rfl rfl rfl (by decide +kernel) ⟨Nat.le_of_ble_eq_true rfl, Nat.le_of_ble_eq_true rfl⟩) (gP.V (ci := 10) (q := (RX11, TX11, 23)) (q0 := 0) hE hS hW rfl rfl) rfl rfl hl.1 rfl (lv_room (Nat.le_of_ble_eq_true rfl)) dX11_read_17 ⟨Nat.le_of_ble_eq_true rfl, Nat.le_of_ble_eq_true rfl⟩) (fun r17 er17 => ?_)
    refine lv_goto (tgt := 25) hx hb dX11_read_20 (by decide) ?_
    refine lv_istore (lv' := [(5, .int (r17)), (0, .ref (eM E 0)), (1, .int (p1)), (2, .int (p2)), (3, .int (p3)), (4, .int (p4))]) hx hb dX11_read_25 hl (by decide) rfl (fun ls hl => ?_)
    refine lv_iload hx hb dX11_read_27 (lv_at hl 0 rfl) ?_
    refine lv_if_ge (tgt := 35) hx hb dX11_read_29 (by decide) (fun c29 => ?_) (fun c29 => ?_)
    · refine lv_aload_n hx hb dX11_read_35 rfl (lv_at hl 1 rfl) ?_
      refine lv_iload_n hx hb dX11_read_36 rfl (lv_at hl 2 rfl) ?_
      refine lv_iload_n hx hb dX11_read_37 rfl (lv_at hl 3 rfl) ?_
      refine va_callv (va_runV (As := [.int (p1), .int (p2)]) (rest := []) ⟨hx, hb, hml, hown, hts⟩ (c_X11_findMarks l E M S p1 p2 (askm_of er17 c29).1 (askm_of er17 c29).2.1.1 hc) (cwV 2 hts gX11_read_X11_findMarks rfl rfl rfl (by decide +kernel) ⟨Nat.le_of_ble_eq_true rfl, Nat.le_of_ble_eq_true rfl⟩) (gP.V (ci := 10) (q := (RX11, TX11, 23)) (q0 := 0) hE hS hW rfl rfl) rfl rfl hl.1 rfl (lv_room (Nat.le_of_ble_eq_true rfl)) dX11_read_38 ⟨Nat.le_of_ble_eq_true rfl, Nat.le_of_ble_eq_true rfl⟩) hS (fun _ _ h => h) (fun _ h => h) (fun M38 t H locs ht hvm hw hB hz1 hk1 hS => ?_)
      have eM38 : M38 = q_X11_findMarks M p1 p2 := hw
      clear hw
      have hW : gW E M38 S H := by rw [← ht]; exact hB
      refine lv_aload_n hx hb dX11_read_41 rfl (lv_at hl 1 rfl) ?_
      refine lv_iload_n hx hb dX11_read_42 rfl (lv_at hl 2 rfl) ?_
      refine lv_iload_n hx hb dX11_read_43 rfl (lv_at hl 3 rfl) ?_
      refine lv_iload_n hx hb dX11_read_44 rfl (lv_at hl 4 rfl) ?_
      refine va_calli (va_runV (As := [.int (p1), .int (p2), .int (p3)]) (rest := []) ⟨hx, hb, hml, hown, hts⟩ (c_X11_isRead l E M38 S p1 p2 p3 (askm_of er17 c29).1 (askm_of er17 c29).2.1.1 (by rw [eM38, fm_c]; exact hc)) (cwV 3 hts gX11_read_X11_isRead rfl rfl rfl (by decide +kernel) ⟨Nat.le_of_ble_eq_true rfl, Nat.le_of_ble_eq_true rfl⟩) (gP.V (ci := 10) (q := (RX11, TX11, 23)) (q0 := 0) hE hS hW rfl rfl) rfl rfl hl.1 rfl (lv_room (Nat.le_of_ble_eq_true rfl)) dX11_read_45 ⟨Nat.le_of_ble_eq_true rfl, Nat.le_of_ble_eq_true rfl⟩) hS (fun _ _ h => h) (fun _ h => h) (fun r45 M45 t H locs ht hvm hw hB hz1 hk1 hS => ?_)
      obtain ⟨er45, eM45⟩ := prj hw
      clear hw
      have hW : gW E M45 S H := by rw [← ht]; exact hB
      refine lv_if_ne (tgt := 54) hx hb dX11_read_48 (by decide) (fun c48 => ?_) (fun c48 => ?_)
      · refine lv_iload hx hb dX11_read_54 (lv_at hl 5 rfl) ?_
        refine lv_if_ne (tgt := 66) hx hb dX11_read_56 (by decide) (fun c56 => ?_) (fun c56 => ?_)
        · refine lv_iload hx hb dX11_read_66 (lv_at hl 5 rfl) ?_
          refine lv_iconst (v := 1) hx hb dX11_read_68 (by decide) ?_
          refine lv_icmp_ne (tgt := 79) hx hb dX11_read_69 (by decide) (fun c69 => ?_) (fun c69 => ?_)
          · refine lv_aload_n hx hb dX11_read_79 rfl (lv_at hl 1 rfl) ?_
            refine va_get (D := eD E) (cl := vwCl) (tys := eT E) (ci := 10) (C := RX11) (T := TX11) (N := 23) (v := .long (M45.2 0 22)) hx hb hts hinX11 hown hE.1 hW.1 0 rfl rfl 22 (by decide) (hts (.fieldLink RX11 231 "DialGardenModel" "readShown" "J") (by decide +kernel)) (fun _ h9 => h9) rfl dX11_read_80 ?_
            refine lv_l2i (v := (M45.2 0 22).toInt32) hx hb dX11_read_83 rfl ?_
            exact W.iret (v := (M45.2 0 22).toInt32) hx hb hr (fun t ht _ => ⟨⟨(M45.2 0 22).toInt32, M45, rfl, by subst eM45; subst er45; subst eM38; subst er17; subst er7; first | (simp only [q_X11_read, if_neg c10, if_pos c29, if_neg c48, if_neg c56, if_neg c69]; done) | contradiction, by dsimp only; rw [ht]; exact hW⟩, hS.F ht⟩) hS.2.2 dX11_read_84
          · refine lv_aload_n hx hb dX11_read_72 rfl (lv_at hl 1 rfl) ?_
            refine va_get (D := eD E) (cl := vwCl) (tys := eT E) (ci := 10) (C := RX11) (T := TX11) (N := 23) (v := .int (M45.1 0 21)) hx hb hts hinX11 hown hE.1 hW.1 0 rfl rfl 21 (by decide) (hts (.fieldLink RX11 226 "DialGardenModel" "readK" "I") (by decide +kernel)) (fun _ h9 => h9) rfl dX11_read_73 ?_
            refine lv_goto (tgt := 84) hx hb dX11_read_76 (by decide) ?_
            exact W.iret (v := M45.1 0 21) hx hb hr (fun t ht _ => ⟨⟨M45.1 0 21, M45, rfl, by subst eM45; subst er45; subst eM38; subst er17; subst er7; first | (simp only [q_X11_read, if_neg c10, if_pos c29, if_neg c48, if_neg c56, if_pos c69]; done) | contradiction, by dsimp only; rw [ht]; exact hW⟩, hS.F ht⟩) hS.2.2 dX11_read_84
        · refine lv_aload_n hx hb dX11_read_59 rfl (lv_at hl 1 rfl) ?_
          refine va_get (D := eD E) (cl := vwCl) (tys := eT E) (ci := 10) (C := RX11) (T := TX11) (N := 23) (v := .int (M45.1 0 20)) hx hb hts hinX11 hown hE.1 hW.1 0 rfl rfl 20 (by decide) (hts (.fieldLink RX11 223 "DialGardenModel" "readH" "I") (by decide +kernel)) (fun _ h9 => h9) rfl dX11_read_60 ?_
          refine lv_goto (tgt := 84) hx hb dX11_read_63 (by decide) ?_
          exact W.iret (v := M45.1 0 20) hx hb hr (fun t ht _ => ⟨⟨M45.1 0 20, M45, rfl, by subst eM45; subst er45; subst eM38; subst er17; subst er7; first | (simp only [q_X11_read, if_neg c10, if_pos c29, if_neg c48, if_pos c56]; done) | contradiction, by dsimp only; rw [ht]; exact hW⟩, hS.F ht⟩) hS.2.2 dX11_read_84
      · refine lv_ldc hx hb (v := (-2000000005)) hown (hts (.constant RX11 172 (-2000000005)) (by decide +kernel)) dX11_read_51 ?_
        exact W.iret (v := (-2000000005)) hx hb hr (fun t ht _ => ⟨⟨(-2000000005), M45, rfl, by subst eM45; subst er45; subst eM38; subst er17; subst er7; first | (simp only [q_X11_read, if_neg c10, if_pos c29, if_pos c48]; done) | contradiction, by dsimp only; rw [ht]; exact hW⟩, hS.F ht⟩) hS.2.2 dX11_read_53
    · refine lv_iload hx hb dX11_read_32 (lv_at hl 0 rfl) ?_
      exact W.iret (v := r17) hx hb hr (fun t ht _ => ⟨⟨r17, M, rfl, by subst er17; subst er7; first | (simp only [q_X11_read, if_neg c10, if_neg c29]; done) | contradiction, by dsimp only; rw [ht]; exact hW⟩, hS.F ht⟩) hS.2.2 dX11_read_34

def q_X11_late_b55 (M : gSm) (p1 : Int32) (p2 : Int32) (p3 : Int32) : Nat → Int32 → Int64 → Int32 → Int32 → gSm → Int32 × gSm
  | 0, v5, v6, v8, v9, Z => (0, Z)
  | n + 1, v5, v6, v8, v9, Z => (if 1440 ≤ v9 then (if p3 = 2 then (v5, Z) else (if v5 = 0 then ((-2000000005), Z) else (if p3 = 0 then (v6.toInt32, Z) else (v8, Z)))) else (let r68 := (q_X11_isRead Z p1 p2 v9).1; let M68 := (q_X11_isRead Z p1 p2 v9).2; (if r68 = 0 then (let x125 := v9 + 1; q_X11_late_b55 M p1 p2 p3 n v5 v6 v8 x125 M68) else (let x74 := v5 + 1; (if (v9.toInt64) ≤ (M68.2 0 22) then (let x107 := (M68.2 0 22) - (v9.toInt64); (if x107 ≤ v6 then (let x125 := v9 + 1; q_X11_late_b55 M p1 p2 p3 n x74 v6 v8 x125 M68) else (let x125 := v9 + 1; q_X11_late_b55 M p1 p2 p3 n x74 x107 v9 x125 M68))) else (let x107 := (v9.toInt64) - (M68.2 0 22); (if x107 ≤ v6 then (let x125 := v9 + 1; q_X11_late_b55 M p1 p2 p3 n x74 v6 v8 x125 M68) else (let x125 := v9 + 1; q_X11_late_b55 M p1 p2 p3 n x74 x107 v9 x125 M68))))))))
def q_X11_late (M : gSm) (p1 : Int32) (p2 : Int32) (p3 : Int32) : Int32 × gSm := (let r6 := q_X11_isIn (p3.toInt64) 0 2; (if r6 = 0 then ((-2000000001), M) else (let r16 := q_X11_ask M p1 p2 0; (if 0 ≤ r16 then (let M37 := q_X11_findMarks M p1 p2; q_X11_late_b55 M p1 p2 p3 1441 0 (-1) (-2000000005) 0 M37) else (r16, M)))))
set_option maxHeartbeats 4000000 in
set_option maxRecDepth 100000 in
theorem c_X11_late (l : Launch) (E : gEE) (M : gSm) (S : gSc) (p1 : Int32) (p2 : Int32) (p3 : Int32) (hc : (M.1 0 6).toInt ≤ 366) : Met l yX11_late wsX11_late ({ frames := 7, cells := 0, slots := 0, locals := 185 }) (va_Pc [.ref (eM E 0), .int (p1), .int (p2), .int (p3)] (gP E M S)) (va_Qi (fun r (u : gSm) => (r, u) = q_X11_late M p1 p2 p3) (fun u t => gW E u S t.heap) (eA E)) 0 0 (eA E) := by
  refine Met.ofW (cc := cX11_late) (maxL := 12) (ret := (some .int)) (by decide) rfl ?_
  intro p e s m args below meth c s₁ B hml hv
  obtain ⟨rfl, hE, hW⟩ := hv
  have hx := B.exec
  have hb := B.bytes
  have hr := B.returns
  have hts := atoms_spec (ws := wsX11_late) B.pre
  have hown : s.vm.findClass RX11 = some m.cls := findClass_of_methodNamed B.named
  have hlocks := B.notSynchronized
  have hinX11 : ∀ w ∈ wsX110, w ∈ wsX11_late := by decide +kernel
  have hS : va_S (eA E) s.heap s.heap [] := va_S.rf
  have hl := lv_entry ([.ref (eM E 0), .int (p1), .int (p2), .int (p3)]) (n := 12) (Nat.le_of_ble_eq_true rfl)
  rw [lg_entry_eq]
  generalize (lg_sl ([.ref (eM E 0), .int (p1), .int (p2), .int (p3)]) ++ List.replicate (12 - (lg_sl ([.ref (eM E 0), .int (p1), .int (p2), .int (p3)])).length) Slot.unset).toArray = ls at hl ⊢
  have hl : lv_has ls 12 [(0, .ref (eM E 0)), (1, .int (p1)), (2, .int (p2)), (3, .int (p3))] := hl
  have hS : ∃ (H : Heap) (locs : List Loc), H = s.heap ∧ locs = [] ∧ gW E M S H ∧ va_S (eA E) s.heap H locs := ⟨_, _, rfl, rfl, hW, hS⟩
  clear hW
  obtain ⟨H, locs, eH, el, hW, hS⟩ := hS
  rw [← eH, ← el]
  clear eH el
  have L55 : ∀ n : Nat, ∀ (v5 : Int32) (v6 : Int64) (v8 : Int32) (v9 : Int32) (Z : gSm) (H : Heap) (locs : List Loc) (ls : Array Slot), ((gL 1440 n v9 ∧ (Z.1 0 6).toInt ≤ 366) ∧ isP p1 ∧ 0 ≤ p2.toInt) → q_X11_late M p1 p2 p3 = q_X11_late_b55 M p1 p2 p3 n v5 v6 v8 v9 Z → gW E Z S H → va_S (eA E) s.heap H locs → lv_has ls 12 [(0, .ref (eM E 0)), (1, .int (p1)), (2, .int (p2)), (3, .int (p3)), (5, .int (v5)), (6, .long (v6)), (8, .int (v8)), (9, .int (v9))] → W p l e (headSpec wsX11_late ({ frames := 7, cells := 0, slots := 0, locals := 185 })).room s m ([.ref (eM E 0), .int (p1), .int (p2), .int (p3)] : List Value).toArray below meth c H locs 0 0 (MQ below (va_Qi (fun r (u : gSm) => (r, u) = q_X11_late M p1 p2 p3) (fun u t => gW E u S t.heap) (eA E)) ([.ref (eM E 0), .int (p1), .int (p2), .int (p3)] : List Value).toArray s 0 0 (eA E)) (F0 m 55 ls []) := by
    intro n
    induction n with
    | zero =>
      intro v5 v6 v8 v9 Z H locs ls hi hq hW hS hl
      exact hi.1.1.z
    | succ n ih =>
      intro v5 v6 v8 v9 Z H locs ls hi hq hW hS hl
      refine lv_iload hx hb dX11_late_55 (lv_at hl 7 rfl) ?_
      refine lv_sipush (v := 1440) hx hb dX11_late_57 (by decide) ?_
      refine lv_icmp_ge (tgt := 131) hx hb dX11_late_60 (by decide) (fun c60 => ?_) (fun c60 => ?_)
      · refine lv_iload_n hx hb dX11_late_131 rfl (lv_at hl 3 rfl) ?_
        refine lv_iconst (v := 2) hx hb dX11_late_132 (by decide) ?_
        refine lv_icmp_ne (tgt := 141) hx hb dX11_late_133 (by decide) (fun c133 => ?_) (fun c133 => ?_)
        · refine lv_iload hx hb dX11_late_141 (lv_at hl 4 rfl) ?_
          refine lv_if_ne (tgt := 151) hx hb dX11_late_143 (by decide) (fun c143 => ?_) (fun c143 => ?_)
          · refine lv_iload_n hx hb dX11_late_151 rfl (lv_at hl 3 rfl) ?_
            refine lv_if_ne (tgt := 161) hx hb dX11_late_152 (by decide) (fun c152 => ?_) (fun c152 => ?_)
            · refine lv_iload hx hb dX11_late_161 (lv_at hl 6 rfl) ?_
              exact W.iret (v := v8) hx hb hr (fun t ht _ => ⟨⟨v8, Z, rfl, by rw [hq]; first | (simp only [q_X11_late_b55, if_pos c60, if_neg c133, if_neg c143, if_neg c152]; done) | contradiction, by dsimp only; rw [ht]; exact hW⟩, hS.F ht⟩) hS.2.2 dX11_late_163
            · refine lv_lload hx hb dX11_late_155 (lv_at hl 5 rfl) ?_
              refine lv_l2i (v := v6.toInt32) hx hb dX11_late_157 rfl ?_
              refine lv_goto (tgt := 163) hx hb dX11_late_158 (by decide) ?_
              exact W.iret (v := v6.toInt32) hx hb hr (fun t ht _ => ⟨⟨v6.toInt32, Z, rfl, by rw [hq]; first | (simp only [q_X11_late_b55, if_pos c60, if_neg c133, if_neg c143, if_pos c152]; done) | contradiction, by dsimp only; rw [ht]; exact hW⟩, hS.F ht⟩) hS.2.2 dX11_late_163
          · refine lv_ldc hx hb (v := (-2000000005)) hown (hts (.constant RX11 172 (-2000000005)) (by decide +kernel)) dX11_late_146 ?_
            refine lv_goto (tgt := 163) hx hb dX11_late_148 (by decide) ?_
            exact W.iret (v := (-2000000005)) hx hb hr (fun t ht _ => ⟨⟨(-2000000005), Z, rfl, by rw [hq]; first | (simp only [q_X11_late_b55, if_pos c60, if_neg c133, if_pos c143]; done) | contradiction, by dsimp only; rw [ht]; exact hW⟩, hS.F ht⟩) hS.2.2 dX11_late_163
        · refine lv_iload hx hb dX11_late_136 (lv_at hl 4 rfl) ?_
          refine lv_goto (tgt := 163) hx hb dX11_late_138 (by decide) ?_
          exact W.iret (v := v5) hx hb hr (fun t ht _ => ⟨⟨v5, Z, rfl, by rw [hq]; first | (simp only [q_X11_late_b55, if_pos c60, if_pos c133]; done) | contradiction, by dsimp only; rw [ht]; exact hW⟩, hS.F ht⟩) hS.2.2 dX11_late_163
      · refine lv_aload_n hx hb dX11_late_63 rfl (lv_at hl 0 rfl) ?_
        refine lv_iload_n hx hb dX11_late_64 rfl (lv_at hl 1 rfl) ?_
        refine lv_iload_n hx hb dX11_late_65 rfl (lv_at hl 2 rfl) ?_
        refine lv_iload hx hb dX11_late_66 (lv_at hl 7 rfl) ?_
        refine va_calli (va_runV (As := [.int (p1), .int (p2), .int (v9)]) (rest := []) ⟨hx, hb, hml, hown, hts⟩ (c_X11_isRead l E Z S p1 p2 v9 hi.2.1 hi.2.2 hi.1.2) (cwV 3 hts gX11_late_X11_isRead rfl rfl rfl (by decide +kernel) ⟨Nat.le_of_ble_eq_true rfl, Nat.le_of_ble_eq_true rfl⟩) (gP.V (ci := 10) (q := (RX11, TX11, 23)) (q0 := 0) hE hS hW rfl rfl) rfl rfl hl.1 rfl (lv_room (Nat.le_of_ble_eq_true rfl)) dX11_late_68 ⟨Nat.le_of_ble_eq_true rfl, Nat.le_of_ble_eq_true rfl⟩) hS (fun _ _ h => h) (fun _ h => h) (fun r68 M68 t H locs ht hvm hw hB hz1 hk1 hS => ?_)
        obtain ⟨er68, eM68⟩ := prj hw
        clear hw
        have hW : gW E M68 S H := by rw [← ht]; exact hB
        refine lv_if_eq (tgt := 125) hx hb dX11_late_71 (by decide) (fun c71 => ?_) (fun c71 => ?_)
        · obtain ⟨x125, ex125⟩ : ∃ y : Int32, y = v9 + 1 := ⟨_, rfl⟩
          refine lv_iinc (v := x125) (lv' := [(9, .int (x125)), (0, .ref (eM E 0)), (1, .int (p1)), (2, .int (p2)), (3, .int (p3)), (5, .int (v5)), (6, .long (v6)), (8, .int (v8))]) hx hb dX11_late_125 hl (k := 7) rfl (by rw [ex125]; rfl) (by decide) rfl (fun ls hl => ?_)
          refine lv_goto (tgt := 55) hx hb dX11_late_128 (by decide) ?_
          exact ih _ _ _ _ _ _ _ _ (by exact ⟨⟨hi.1.1.st c60 (by decide) ex125, by rw [eM68, ir_c]; exact hi.1.2⟩, hi.2⟩) (by rw [hq]; subst ex125; subst eM68; subst er68; first | (simp only [q_X11_late_b55, if_neg c60, if_pos c71]; done) | contradiction) hW hS (lv_sub hl [1, 2, 3, 4, 5, 6, 7, 0] rfl)
        · obtain ⟨x74, ex74⟩ : ∃ y : Int32, y = v5 + 1 := ⟨_, rfl⟩
          refine lv_iinc (v := x74) (lv' := [(5, .int (x74)), (0, .ref (eM E 0)), (1, .int (p1)), (2, .int (p2)), (3, .int (p3)), (6, .long (v6)), (8, .int (v8)), (9, .int (v9))]) hx hb dX11_late_74 hl (k := 4) rfl (by rw [ex74]; rfl) (by decide) rfl (fun ls hl => ?_)
          refine lv_aload_n hx hb dX11_late_77 rfl (lv_at hl 1 rfl) ?_
          refine va_get (D := eD E) (cl := vwCl) (tys := eT E) (ci := 10) (C := RX11) (T := TX11) (N := 23) (v := .long (M68.2 0 22)) hx hb hts hinX11 hown hE.1 hW.1 0 rfl rfl 22 (by decide) (hts (.fieldLink RX11 231 "DialGardenModel" "readShown" "J") (by decide +kernel)) (fun _ h9 => h9) rfl dX11_late_78 ?_
          refine lv_iload hx hb dX11_late_81 (lv_at hl 7 rfl) ?_
          refine lv_i2l (v := v9.toInt64) hx hb dX11_late_83 rfl ?_
          refine k_lge (tgt := 99) hx hb dX11_late_84 dX11_late_85 (by decide) (fun c84 => ?_) (fun c84 => ?_)
          · refine lv_aload_n hx hb dX11_late_99 rfl (lv_at hl 1 rfl) ?_
            refine va_get (D := eD E) (cl := vwCl) (tys := eT E) (ci := 10) (C := RX11) (T := TX11) (N := 23) (v := .long (M68.2 0 22)) hx hb hts hinX11 hown hE.1 hW.1 0 rfl rfl 22 (by decide) (hts (.fieldLink RX11 231 "DialGardenModel" "readShown" "J") (by decide +kernel)) (fun _ h9 => h9) rfl dX11_late_100 ?_
            refine lv_iload hx hb dX11_late_103 (lv_at hl 7 rfl) ?_
            refine lv_i2l (v := v9.toInt64) hx hb dX11_late_105 rfl ?_
            refine lv_lsub hx hb dX11_late_106 ?_
            refine lv_topl (fun x107 ex107 => ?_)
            refine lv_lstore (lv' := [(10, .long (x107)), (5, .int (x74)), (0, .ref (eM E 0)), (1, .int (p1)), (2, .int (p2)), (3, .int (p3)), (6, .long (v6)), (8, .int (v8)), (9, .int (v9))]) hx hb dX11_late_107 hl (by decide) rfl (fun ls hl => ?_)
            refine lv_lload hx hb dX11_late_109 (lv_at hl 0 rfl) ?_
            refine lv_lload hx hb dX11_late_111 (lv_at hl 6 rfl) ?_
            refine k_lle (tgt := 125) hx hb dX11_late_113 dX11_late_114 (by decide) (fun c113 => ?_) (fun c113 => ?_)
            · obtain ⟨x125, ex125⟩ : ∃ y : Int32, y = v9 + 1 := ⟨_, rfl⟩
              refine lv_iinc (v := x125) (lv' := [(9, .int (x125)), (10, .long (x107)), (5, .int (x74)), (0, .ref (eM E 0)), (1, .int (p1)), (2, .int (p2)), (3, .int (p3)), (6, .long (v6)), (8, .int (v8))]) hx hb dX11_late_125 hl (k := 8) rfl (by rw [ex125]; rfl) (by decide) rfl (fun ls hl => ?_)
              refine lv_goto (tgt := 55) hx hb dX11_late_128 (by decide) ?_
              exact ih _ _ _ _ _ _ _ _ (by exact ⟨⟨hi.1.1.st c60 (by decide) ex125, by rw [eM68, ir_c]; exact hi.1.2⟩, hi.2⟩) (by rw [hq]; subst ex125; subst ex107; subst ex74; subst eM68; subst er68; first | (simp only [q_X11_late_b55, if_neg c60, if_neg c71, if_pos c84, if_pos c113]; done) | contradiction) hW hS (lv_sub hl [3, 4, 5, 6, 2, 7, 8, 0] rfl)
            · refine lv_lload hx hb dX11_late_117 (lv_at hl 0 rfl) ?_
              refine lv_lstore (lv' := [(6, .long (x107)), (10, .long (x107)), (5, .int (x74)), (0, .ref (eM E 0)), (1, .int (p1)), (2, .int (p2)), (3, .int (p3)), (8, .int (v8)), (9, .int (v9))]) hx hb dX11_late_119 hl (by decide) rfl (fun ls hl => ?_)
              refine lv_iload hx hb dX11_late_121 (lv_at hl 8 rfl) ?_
              refine lv_istore (lv' := [(8, .int (v9)), (6, .long (x107)), (10, .long (x107)), (5, .int (x74)), (0, .ref (eM E 0)), (1, .int (p1)), (2, .int (p2)), (3, .int (p3)), (9, .int (v9))]) hx hb dX11_late_123 hl (by decide) rfl (fun ls hl => ?_)
              obtain ⟨x125, ex125⟩ : ∃ y : Int32, y = v9 + 1 := ⟨_, rfl⟩
              refine lv_iinc (v := x125) (lv' := [(9, .int (x125)), (8, .int (v9)), (6, .long (x107)), (10, .long (x107)), (5, .int (x74)), (0, .ref (eM E 0)), (1, .int (p1)), (2, .int (p2)), (3, .int (p3))]) hx hb dX11_late_125 hl (k := 8) rfl (by rw [ex125]; rfl) (by decide) rfl (fun ls hl => ?_)
              refine lv_goto (tgt := 55) hx hb dX11_late_128 (by decide) ?_
              exact ih _ _ _ _ _ _ _ _ (by exact ⟨⟨hi.1.1.st c60 (by decide) ex125, by rw [eM68, ir_c]; exact hi.1.2⟩, hi.2⟩) (by rw [hq]; subst ex125; subst ex107; subst ex74; subst eM68; subst er68; first | (simp only [q_X11_late_b55, if_neg c60, if_neg c71, if_pos c84, if_neg c113]; done) | contradiction) hW hS (lv_sub hl [5, 6, 7, 8, 4, 2, 1, 0] rfl)
          · refine lv_iload hx hb dX11_late_88 (lv_at hl 7 rfl) ?_
            refine lv_i2l (v := v9.toInt64) hx hb dX11_late_90 rfl ?_
            refine lv_aload_n hx hb dX11_late_91 rfl (lv_at hl 1 rfl) ?_
            refine va_get (D := eD E) (cl := vwCl) (tys := eT E) (ci := 10) (C := RX11) (T := TX11) (N := 23) (v := .long (M68.2 0 22)) hx hb hts hinX11 hown hE.1 hW.1 0 rfl rfl 22 (by decide) (hts (.fieldLink RX11 231 "DialGardenModel" "readShown" "J") (by decide +kernel)) (fun _ h9 => h9) rfl dX11_late_92 ?_
            refine lv_lsub hx hb dX11_late_95 ?_
            refine lv_goto (tgt := 107) hx hb dX11_late_96 (by decide) ?_
            refine lv_topl (fun x107 ex107 => ?_)
            refine lv_lstore (lv' := [(10, .long (x107)), (5, .int (x74)), (0, .ref (eM E 0)), (1, .int (p1)), (2, .int (p2)), (3, .int (p3)), (6, .long (v6)), (8, .int (v8)), (9, .int (v9))]) hx hb dX11_late_107 hl (by decide) rfl (fun ls hl => ?_)
            refine lv_lload hx hb dX11_late_109 (lv_at hl 0 rfl) ?_
            refine lv_lload hx hb dX11_late_111 (lv_at hl 6 rfl) ?_
            refine k_lle (tgt := 125) hx hb dX11_late_113 dX11_late_114 (by decide) (fun c113 => ?_) (fun c113 => ?_)
            · obtain ⟨x125, ex125⟩ : ∃ y : Int32, y = v9 + 1 := ⟨_, rfl⟩
              refine lv_iinc (v := x125) (lv' := [(9, .int (x125)), (10, .long (x107)), (5, .int (x74)), (0, .ref (eM E 0)), (1, .int (p1)), (2, .int (p2)), (3, .int (p3)), (6, .long (v6)), (8, .int (v8))]) hx hb dX11_late_125 hl (k := 8) rfl (by rw [ex125]; rfl) (by decide) rfl (fun ls hl => ?_)
              refine lv_goto (tgt := 55) hx hb dX11_late_128 (by decide) ?_
              exact ih _ _ _ _ _ _ _ _ (by exact ⟨⟨hi.1.1.st c60 (by decide) ex125, by rw [eM68, ir_c]; exact hi.1.2⟩, hi.2⟩) (by rw [hq]; subst ex125; subst ex107; subst ex74; subst eM68; subst er68; first | (simp only [q_X11_late_b55, if_neg c60, if_neg c71, if_neg c84, if_pos c113]; done) | contradiction) hW hS (lv_sub hl [3, 4, 5, 6, 2, 7, 8, 0] rfl)
            · refine lv_lload hx hb dX11_late_117 (lv_at hl 0 rfl) ?_
              refine lv_lstore (lv' := [(6, .long (x107)), (10, .long (x107)), (5, .int (x74)), (0, .ref (eM E 0)), (1, .int (p1)), (2, .int (p2)), (3, .int (p3)), (8, .int (v8)), (9, .int (v9))]) hx hb dX11_late_119 hl (by decide) rfl (fun ls hl => ?_)
              refine lv_iload hx hb dX11_late_121 (lv_at hl 8 rfl) ?_
              refine lv_istore (lv' := [(8, .int (v9)), (6, .long (x107)), (10, .long (x107)), (5, .int (x74)), (0, .ref (eM E 0)), (1, .int (p1)), (2, .int (p2)), (3, .int (p3)), (9, .int (v9))]) hx hb dX11_late_123 hl (by decide) rfl (fun ls hl => ?_)
              obtain ⟨x125, ex125⟩ : ∃ y : Int32, y = v9 + 1 := ⟨_, rfl⟩
              refine lv_iinc (v := x125) (lv' := [(9, .int (x125)), (8, .int (v9)), (6, .long (x107)), (10, .long (x107)), (5, .int (x74)), (0, .ref (eM E 0)), (1, .int (p1)), (2, .int (p2)), (3, .int (p3))]) hx hb dX11_late_125 hl (k := 8) rfl (by rw [ex125]; rfl) (by decide) rfl (fun ls hl => ?_)
              refine lv_goto (tgt := 55) hx hb dX11_late_128 (by decide) ?_
              exact ih _ _ _ _ _ _ _ _ (by exact ⟨⟨hi.1.1.st c60 (by decide) ex125, by rw [eM68, ir_c]; exact hi.1.2⟩, hi.2⟩) (by rw [hq]; subst ex125; subst ex107; subst ex74; subst eM68; subst er68; first | (simp only [q_X11_late_b55, if_neg c60, if_neg c71, if_neg c84, if_neg c113]; done) | contradiction) hW hS (lv_sub hl [5, 6, 7, 8, 4, 2, 1, 0] rfl)
  refine lv_iload_n hx hb dX11_late_0 rfl (lv_at hl 3 rfl) ?_
  refine lv_i2l (v := p3.toInt64) hx hb dX11_late_1 rfl ?_
  refine lv_lconst (v := 0) hx hb dX11_late_2 (by decide) ?_
  refine lv_ldc2 hx hb (v := 2) hown (hts (.constantLong RX11 184 (2)) (by decide +kernel)) dX11_late_3 ?_
  refine k_Si (va_runS (As := [.long (p3.toInt64), .long (0), .long (2)]) (rest := []) ⟨hx, hb, hml, hown, hts⟩ (c_X11_isIn l (p3.toInt64) 0 2) (va_cwS 3 hts gX11_late_X11_isIn rfl rfl rfl (by decide +kernel) ⟨Nat.le_of_ble_eq_true rfl, Nat.le_of_ble_eq_true rfl⟩) gP0 rfl rfl hl.1 rfl (lv_room (Nat.le_of_ble_eq_true rfl)) dX11_late_6 ⟨Nat.le_of_ble_eq_true rfl, Nat.le_of_ble_eq_true rfl⟩) (fun r6 er6 => ?_)
  refine lv_if_eq (tgt := 22) hx hb dX11_late_9 (by decide) (fun c9 => ?_) (fun c9 => ?_)
  · refine lv_ldc hx hb (v := (-2000000001)) hown (hts (.constant RX11 73 (-2000000001)) (by decide +kernel)) dX11_late_22 ?_
    refine lv_istore (lv' := [(4, .int ((-2000000001))), (0, .ref (eM E 0)), (1, .int (p1)), (2, .int (p2)), (3, .int (p3))]) hx hb dX11_late_24 hl (by decide) rfl (fun ls hl => ?_)
    refine lv_iload hx hb dX11_late_26 (lv_at hl 0 rfl) ?_
    refine lv_if_ge (tgt := 34) hx hb dX11_late_28 (by decide) (fun c28 => ?_) (fun c28 => ?_)
    · exact absurd c28 (by decide)
    · refine lv_iload hx hb dX11_late_31 (lv_at hl 0 rfl) ?_
      exact W.iret (v := (-2000000001)) hx hb hr (fun t ht _ => ⟨⟨(-2000000001), M, rfl, by subst er6; first | (simp only [q_X11_late, if_pos c9]; done) | contradiction, by dsimp only; rw [ht]; exact hW⟩, hS.F ht⟩) hS.2.2 dX11_late_33
  · refine lv_aload_n hx hb dX11_late_12 rfl (lv_at hl 0 rfl) ?_
    refine lv_iload_n hx hb dX11_late_13 rfl (lv_at hl 1 rfl) ?_
    refine lv_iload_n hx hb dX11_late_14 rfl (lv_at hl 2 rfl) ?_
    refine lv_iconst (v := 0) hx hb dX11_late_15 (by decide) ?_
    refine k_Si (va_runV (As := [.int (p1), .int (p2), .int (0)]) (rest := []) ⟨hx, hb, hml, hown, hts⟩ (c_X11_ask l E M S p1 p2 0) (cwV 3 hts gX11_late_X11_ask rfl rfl rfl (by decide +kernel) ⟨Nat.le_of_ble_eq_true rfl, Nat.le_of_ble_eq_true rfl⟩) (gP.V (ci := 10) (q := (RX11, TX11, 23)) (q0 := 0) hE hS hW rfl rfl) rfl rfl hl.1 rfl (lv_room (Nat.le_of_ble_eq_true rfl)) dX11_late_16 ⟨Nat.le_of_ble_eq_true rfl, Nat.le_of_ble_eq_true rfl⟩) (fun r16 er16 => ?_)
    refine lv_goto (tgt := 24) hx hb dX11_late_19 (by decide) ?_
    refine lv_istore (lv' := [(4, .int (r16)), (0, .ref (eM E 0)), (1, .int (p1)), (2, .int (p2)), (3, .int (p3))]) hx hb dX11_late_24 hl (by decide) rfl (fun ls hl => ?_)
    refine lv_iload hx hb dX11_late_26 (lv_at hl 0 rfl) ?_
    refine lv_if_ge (tgt := 34) hx hb dX11_late_28 (by decide) (fun c28 => ?_) (fun c28 => ?_)
    · refine lv_aload_n hx hb dX11_late_34 rfl (lv_at hl 1 rfl) ?_
      refine lv_iload_n hx hb dX11_late_35 rfl (lv_at hl 2 rfl) ?_
      refine lv_iload_n hx hb dX11_late_36 rfl (lv_at hl 3 rfl) ?_
      refine va_callv (va_runV (As := [.int (p1), .int (p2)]) (rest := []) ⟨hx, hb, hml, hown, hts⟩ (c_X11_findMarks l E M S p1 p2 (askm_of er16 c28).1 (askm_of er16 c28).2.1.1 hc) (cwV 2 hts gX11_late_X11_findMarks rfl rfl rfl (by decide +kernel) ⟨Nat.le_of_ble_eq_true rfl, Nat.le_of_ble_eq_true rfl⟩) (gP.V (ci := 10) (q := (RX11, TX11, 23)) (q0 := 0) hE hS hW rfl rfl) rfl rfl hl.1 rfl (lv_room (Nat.le_of_ble_eq_true rfl)) dX11_late_37 ⟨Nat.le_of_ble_eq_true rfl, Nat.le_of_ble_eq_true rfl⟩) hS (fun _ _ h => h) (fun _ h => h) (fun M37 t H locs ht hvm hw hB hz1 hk1 hS => ?_)
      have eM37 : M37 = q_X11_findMarks M p1 p2 := hw
      clear hw
      have hW : gW E M37 S H := by rw [← ht]; exact hB
      refine lv_iconst (v := 0) hx hb dX11_late_40 (by decide) ?_
      refine lv_istore (lv' := [(5, .int (0)), (4, .int (r16)), (0, .ref (eM E 0)), (1, .int (p1)), (2, .int (p2)), (3, .int (p3))]) hx hb dX11_late_41 hl (by decide) rfl (fun ls hl => ?_)
      refine lv_ldc2 hx hb (v := (-1)) hown (hts (.constantLong RX11 244 (-1)) (by decide +kernel)) dX11_late_43 ?_
      refine lv_lstore (lv' := [(6, .long ((-1))), (5, .int (0)), (4, .int (r16)), (0, .ref (eM E 0)), (1, .int (p1)), (2, .int (p2)), (3, .int (p3))]) hx hb dX11_late_46 hl (by decide) rfl (fun ls hl => ?_)
      refine lv_ldc hx hb (v := (-2000000005)) hown (hts (.constant RX11 172 (-2000000005)) (by decide +kernel)) dX11_late_48 ?_
      refine lv_istore (lv' := [(8, .int ((-2000000005))), (6, .long ((-1))), (5, .int (0)), (4, .int (r16)), (0, .ref (eM E 0)), (1, .int (p1)), (2, .int (p2)), (3, .int (p3))]) hx hb dX11_late_50 hl (by decide) rfl (fun ls hl => ?_)
      refine lv_iconst (v := 0) hx hb dX11_late_52 (by decide) ?_
      refine lv_istore (lv' := [(9, .int (0)), (8, .int ((-2000000005))), (6, .long ((-1))), (5, .int (0)), (4, .int (r16)), (0, .ref (eM E 0)), (1, .int (p1)), (2, .int (p2)), (3, .int (p3))]) hx hb dX11_late_53 hl (by decide) rfl (fun ls hl => ?_)
      exact L55 1441 _ _ _ _ _ _ _ _ (by exact ⟨⟨gL.i 1440, by rw [eM37, fm_c]; exact hc⟩, (askm_of er16 c28).1, (askm_of er16 c28).2.1.1⟩) (by subst eM37; subst er16; subst er6; first | (simp only [q_X11_late, if_neg c9, if_pos c28]; done) | contradiction) hW hS (lv_sub hl [5, 6, 7, 8, 3, 2, 1, 0] rfl)
    · refine lv_iload hx hb dX11_late_31 (lv_at hl 0 rfl) ?_
      exact W.iret (v := r16) hx hb hr (fun t ht _ => ⟨⟨r16, M, rfl, by subst er16; subst er6; first | (simp only [q_X11_late, if_neg c9, if_neg c28]; done) | contradiction, by dsimp only; rw [ht]; exact hW⟩, hS.F ht⟩) hS.2.2 dX11_late_33
