def q_X11_rowOf_b10 (M : gSm) (p1 : Int32) (p2 : Int32) (p3 : Int32) (p4 : Int32) : Nat → Int32 → Int32 → Int32 → gSm → Int32 × gSm
  | 0, v5, v6, v7, Z => (0, Z)
  | n + 1, v5, v6, v7, Z => (if 1440 < v7 then (if 0 ≤ p3 then ((-2000000005), Z) else (v5, Z)) else (if 1440 ≤ v7 then (if v6 = (-2000000005) then (let x100 := v7 + 1; q_X11_rowOf_b10 M p1 p2 p3 p4 n v5 v6 x100 Z) else (if v5 = p3 then (if p4 = 0 then (v6, Z) else (v7 - 1, Z)) else (let x93 := v5 + 1; (let x100 := v7 + 1; q_X11_rowOf_b10 M p1 p2 p3 p4 n x93 (-2000000005) x100 Z)))) else (let r31 := (q_X11_stateNow Z p1 p2 v7).1; let M31 := (q_X11_stateNow Z p1 p2 v7).2; (if r31 = 0 then (if v6 = (-2000000005) then (let x100 := v7 + 1; q_X11_rowOf_b10 M p1 p2 p3 p4 n v5 v7 x100 M31) else (let x100 := v7 + 1; q_X11_rowOf_b10 M p1 p2 p3 p4 n v5 v6 x100 M31)) else (if v6 = (-2000000005) then (let x100 := v7 + 1; q_X11_rowOf_b10 M p1 p2 p3 p4 n v5 v6 x100 M31) else (if v5 = p3 then (if p4 = 0 then (v6, M31) else (v7 - 1, M31)) else (let x93 := v5 + 1; (let x100 := v7 + 1; q_X11_rowOf_b10 M p1 p2 p3 p4 n x93 (-2000000005) x100 M31))))))))
def q_X11_rowOf (M : gSm) (p1 : Int32) (p2 : Int32) (p3 : Int32) (p4 : Int32) : Int32 × gSm := q_X11_rowOf_b10 M p1 p2 p3 p4 1442 0 (-2000000005) 0 M
set_option maxHeartbeats 4000000 in
set_option maxRecDepth 100000 in
theorem c_X11_rowOf (l : Launch) (E : gEE) (M : gSm) (S : gSc) (p1 : Int32) (p2 : Int32) (p3 : Int32) (p4 : Int32) (hp : isP p1) (hd : 0 ≤ p2.toInt) (hc : (M.1 0 6).toInt ≤ 366) : Met l yX11_rowOf wsX11_rowOf ({ frames := 6, cells := 0, slots := 0, locals := 156 }) (va_Pc [.ref (eM E 0), .int (p1), .int (p2), .int (p3), .int (p4)] (gP E M S)) (va_Qi (fun r (u : gSm) => (r, u) = q_X11_rowOf M p1 p2 p3 p4) (fun u t => gW E u S t.heap) (eA E)) 0 0 (eA E) := by
  refine Met.ofW (cc := cX11_rowOf) (maxL := 9) (ret := (some .int)) (by decide) rfl ?_
  intro p e s m args below meth c s₁ B hml hv
  obtain ⟨rfl, hE, hW⟩ := hv
  have hx := B.exec
  have hb := B.bytes
  have hr := B.returns
  have hts := atoms_spec (ws := wsX11_rowOf) B.pre
  have hown : s.vm.findClass RX11 = some m.cls := findClass_of_methodNamed B.named
  have hlocks := B.notSynchronized
  have hS : va_S (eA E) s.heap s.heap [] := va_S.rf
  have hl := lv_entry ([.ref (eM E 0), .int (p1), .int (p2), .int (p3), .int (p4)]) (n := 9) (Nat.le_of_ble_eq_true rfl)
  rw [lg_entry_eq]
  generalize (lg_sl ([.ref (eM E 0), .int (p1), .int (p2), .int (p3), .int (p4)]) ++ List.replicate (9 - (lg_sl ([.ref (eM E 0), .int (p1), .int (p2), .int (p3), .int (p4)])).length) Slot.unset).toArray = ls at hl ⊢
  have hl : lv_has ls 9 [(0, .ref (eM E 0)), (1, .int (p1)), (2, .int (p2)), (3, .int (p3)), (4, .int (p4))] := hl
  have hS : ∃ (H : Heap) (locs : List Loc), H = s.heap ∧ locs = [] ∧ gW E M S H ∧ va_S (eA E) s.heap H locs := ⟨_, _, rfl, rfl, hW, hS⟩
  clear hW
  obtain ⟨H, locs, eH, el, hW, hS⟩ := hS
  rw [← eH, ← el]
  clear eH el
  have L10 : ∀ n : Nat, ∀ (v5 : Int32) (v6 : Int32) (v7 : Int32) (Z : gSm) (H : Heap) (locs : List Loc) (ls : Array Slot), (gL 1441 n v7 ∧ (Z.1 0 6).toInt ≤ 366) → q_X11_rowOf M p1 p2 p3 p4 = q_X11_rowOf_b10 M p1 p2 p3 p4 n v5 v6 v7 Z → gW E Z S H → va_S (eA E) s.heap H locs → lv_has ls 9 [(0, .ref (eM E 0)), (1, .int (p1)), (2, .int (p2)), (3, .int (p3)), (4, .int (p4)), (5, .int (v5)), (6, .int (v6)), (7, .int (v7))] → W p l e (headSpec wsX11_rowOf ({ frames := 6, cells := 0, slots := 0, locals := 156 })).room s m ([.ref (eM E 0), .int (p1), .int (p2), .int (p3), .int (p4)] : List Value).toArray below meth c H locs 0 0 (MQ below (va_Qi (fun r (u : gSm) => (r, u) = q_X11_rowOf M p1 p2 p3 p4) (fun u t => gW E u S t.heap) (eA E)) ([.ref (eM E 0), .int (p1), .int (p2), .int (p3), .int (p4)] : List Value).toArray s 0 0 (eA E)) (F0 m 10 ls []) := by
    intro n
    induction n with
    | zero =>
      intro v5 v6 v7 Z H locs ls hi hq hW hS hl
      exact hi.1.z
    | succ n ih =>
      intro v5 v6 v7 Z H locs ls hi hq hW hS hl
      refine lv_iload hx hb dX11_rowOf_10 (lv_at hl 7 rfl) ?_
      refine lv_sipush (v := 1440) hx hb dX11_rowOf_12 (by decide) ?_
      refine lv_icmp_gt (tgt := 106) hx hb dX11_rowOf_15 (by decide) (fun c15 => ?_) (fun c15 => ?_)
      · refine lv_iload_n hx hb dX11_rowOf_106 rfl (lv_at hl 3 rfl) ?_
        refine lv_if_ge (tgt := 115) hx hb dX11_rowOf_107 (by decide) (fun c107 => ?_) (fun c107 => ?_)
        · refine lv_ldc hx hb (v := (-2000000005)) hown (hts (.constant RX11 172 (-2000000005)) (by decide +kernel)) dX11_rowOf_115 ?_
          exact W.iret (v := (-2000000005)) hx hb hr (fun t ht _ => ⟨⟨(-2000000005), Z, rfl, by rw [hq]; first | (simp only [q_X11_rowOf_b10, if_pos c15, if_pos c107]; done) | contradiction, by dsimp only; rw [ht]; exact hW⟩, hS.F ht⟩) hS.2.2 dX11_rowOf_117
        · refine lv_iload hx hb dX11_rowOf_110 (lv_at hl 5 rfl) ?_
          refine lv_goto (tgt := 117) hx hb dX11_rowOf_112 (by decide) ?_
          exact W.iret (v := v5) hx hb hr (fun t ht _ => ⟨⟨v5, Z, rfl, by rw [hq]; first | (simp only [q_X11_rowOf_b10, if_pos c15, if_neg c107]; done) | contradiction, by dsimp only; rw [ht]; exact hW⟩, hS.F ht⟩) hS.2.2 dX11_rowOf_117
      · refine lv_iload hx hb dX11_rowOf_18 (lv_at hl 7 rfl) ?_
        refine lv_sipush (v := 1440) hx hb dX11_rowOf_20 (by decide) ?_
        refine lv_icmp_ge (tgt := 41) hx hb dX11_rowOf_23 (by decide) (fun c23 => ?_) (fun c23 => ?_)
        · refine lv_iconst (v := 0) hx hb dX11_rowOf_41 (by decide) ?_
          refine lv_istore (lv' := [(8, .int (0)), (0, .ref (eM E 0)), (1, .int (p1)), (2, .int (p2)), (3, .int (p3)), (4, .int (p4)), (5, .int (v5)), (6, .int (v6)), (7, .int (v7))]) hx hb dX11_rowOf_42 hl (by decide) rfl (fun ls hl => ?_)
          refine lv_iload hx hb dX11_rowOf_44 (lv_at hl 0 rfl) ?_
          refine lv_if_eq (tgt := 60) hx hb dX11_rowOf_46 (by decide) (fun c46 => ?_) (fun c46 => ?_)
          · refine lv_iload hx hb dX11_rowOf_60 (lv_at hl 0 rfl) ?_
            refine lv_if_ne (tgt := 100) hx hb dX11_rowOf_62 (by decide) (fun c62 => ?_) (fun c62 => ?_)
            · exact absurd c62 (by decide)
            · refine lv_iload hx hb dX11_rowOf_65 (lv_at hl 7 rfl) ?_
              refine lv_ldc hx hb (v := (-2000000005)) hown (hts (.constant RX11 172 (-2000000005)) (by decide +kernel)) dX11_rowOf_67 ?_
              refine lv_icmp_eq (tgt := 100) hx hb dX11_rowOf_69 (by decide) (fun c69 => ?_) (fun c69 => ?_)
              · obtain ⟨x100, ex100⟩ : ∃ y : Int32, y = v7 + 1 := ⟨_, rfl⟩
                refine lv_iinc (v := x100) (lv' := [(7, .int (x100)), (8, .int (0)), (0, .ref (eM E 0)), (1, .int (p1)), (2, .int (p2)), (3, .int (p3)), (4, .int (p4)), (5, .int (v5)), (6, .int (v6))]) hx hb dX11_rowOf_100 hl (k := 8) rfl (by rw [ex100]; rfl) (by decide) rfl (fun ls hl => ?_)
                refine lv_goto (tgt := 10) hx hb dX11_rowOf_103 (by decide) ?_
                exact ih _ _ _ _ _ _ _ (by first | exact ⟨hi.1.st2 c15 (by decide) ex100, hi.2⟩ | exact ⟨hi.1.st2 c15 (by decide) ex100, by show (M31.1 0 6).toInt ≤ 366; rw [eM31, stn_I]; exact hi.2⟩) (by rw [hq]; subst ex100; first | (simp only [q_X11_rowOf_b10, if_neg c15, if_pos c23, if_pos c69]; done) | contradiction) hW hS (lv_sub hl [2, 3, 4, 5, 6, 7, 8, 0] rfl)
              · refine lv_iload hx hb dX11_rowOf_72 (lv_at hl 6 rfl) ?_
                refine lv_iload_n hx hb dX11_rowOf_74 rfl (lv_at hl 4 rfl) ?_
                refine lv_icmp_ne (tgt := 93) hx hb dX11_rowOf_75 (by decide) (fun c75 => ?_) (fun c75 => ?_)
                · obtain ⟨x93, ex93⟩ : ∃ y : Int32, y = v5 + 1 := ⟨_, rfl⟩
                  refine lv_iinc (v := x93) (lv' := [(5, .int (x93)), (8, .int (0)), (0, .ref (eM E 0)), (1, .int (p1)), (2, .int (p2)), (3, .int (p3)), (4, .int (p4)), (6, .int (v6)), (7, .int (v7))]) hx hb dX11_rowOf_93 hl (k := 6) rfl (by rw [ex93]; rfl) (by decide) rfl (fun ls hl => ?_)
                  refine lv_ldc hx hb (v := (-2000000005)) hown (hts (.constant RX11 172 (-2000000005)) (by decide +kernel)) dX11_rowOf_96 ?_
                  refine lv_istore (lv' := [(6, .int ((-2000000005))), (5, .int (x93)), (8, .int (0)), (0, .ref (eM E 0)), (1, .int (p1)), (2, .int (p2)), (3, .int (p3)), (4, .int (p4)), (7, .int (v7))]) hx hb dX11_rowOf_98 hl (by decide) rfl (fun ls hl => ?_)
                  obtain ⟨x100, ex100⟩ : ∃ y : Int32, y = v7 + 1 := ⟨_, rfl⟩
                  refine lv_iinc (v := x100) (lv' := [(7, .int (x100)), (6, .int ((-2000000005))), (5, .int (x93)), (8, .int (0)), (0, .ref (eM E 0)), (1, .int (p1)), (2, .int (p2)), (3, .int (p3)), (4, .int (p4))]) hx hb dX11_rowOf_100 hl (k := 8) rfl (by rw [ex100]; rfl) (by decide) rfl (fun ls hl => ?_)
                  refine lv_goto (tgt := 10) hx hb dX11_rowOf_103 (by decide) ?_
                  exact ih _ _ _ _ _ _ _ (by first | exact ⟨hi.1.st2 c15 (by decide) ex100, hi.2⟩ | exact ⟨hi.1.st2 c15 (by decide) ex100, by show (M31.1 0 6).toInt ≤ 366; rw [eM31, stn_I]; exact hi.2⟩) (by rw [hq]; subst ex100; subst ex93; first | (simp only [q_X11_rowOf_b10, if_neg c15, if_pos c23, if_neg c69, if_neg c75]; done) | contradiction) hW hS (lv_sub hl [4, 5, 6, 7, 8, 2, 1, 0] rfl)
                · refine lv_iload hx hb dX11_rowOf_78 (lv_at hl 5 rfl) ?_
                  refine lv_if_ne (tgt := 88) hx hb dX11_rowOf_80 (by decide) (fun c80 => ?_) (fun c80 => ?_)
                  · refine lv_iload hx hb dX11_rowOf_88 (lv_at hl 8 rfl) ?_
                    refine lv_iconst (v := 1) hx hb dX11_rowOf_90 (by decide) ?_
                    refine lv_isub hx hb dX11_rowOf_91 ?_
                    exact W.iret (v := v7 - 1) hx hb hr (fun t ht _ => ⟨⟨v7 - 1, Z, rfl, by rw [hq]; first | (simp only [q_X11_rowOf_b10, if_neg c15, if_pos c23, if_neg c69, if_pos c75, if_neg c80]; done) | contradiction, by dsimp only; rw [ht]; exact hW⟩, hS.F ht⟩) hS.2.2 dX11_rowOf_92
                  · refine lv_iload hx hb dX11_rowOf_83 (lv_at hl 7 rfl) ?_
                    refine lv_goto (tgt := 92) hx hb dX11_rowOf_85 (by decide) ?_
                    exact W.iret (v := v6) hx hb hr (fun t ht _ => ⟨⟨v6, Z, rfl, by rw [hq]; first | (simp only [q_X11_rowOf_b10, if_neg c15, if_pos c23, if_neg c69, if_pos c75, if_pos c80]; done) | contradiction, by dsimp only; rw [ht]; exact hW⟩, hS.F ht⟩) hS.2.2 dX11_rowOf_92
          · exact absurd c46 (by decide)
        · refine lv_aload_n hx hb dX11_rowOf_26 rfl (lv_at hl 0 rfl) ?_
          refine lv_iload_n hx hb dX11_rowOf_27 rfl (lv_at hl 1 rfl) ?_
          refine lv_iload_n hx hb dX11_rowOf_28 rfl (lv_at hl 2 rfl) ?_
          refine lv_iload hx hb dX11_rowOf_29 (lv_at hl 7 rfl) ?_
          refine va_calli (va_runV (As := [.int (p1), .int (p2), .int (v7)]) (rest := []) ⟨hx, hb, hml, hown, hts⟩ (c_X11_stateNow l E Z S p1 p2 v7 hp hd hi.2) (cwV 3 hts gX11_rowOf_X11_stateNow rfl rfl rfl (by decide +kernel) ⟨Nat.le_of_ble_eq_true rfl, Nat.le_of_ble_eq_true rfl⟩) (gP.V (ci := 10) (q := (RX11, TX11, 23)) (q0 := 0) hE hS hW rfl rfl) rfl rfl hl.1 rfl (lv_room (Nat.le_of_ble_eq_true rfl)) dX11_rowOf_31 ⟨Nat.le_of_ble_eq_true rfl, Nat.le_of_ble_eq_true rfl⟩) hS (fun _ _ h => h) (fun _ h => h) (fun r31 M31 t H locs ht hvm hw hB hz1 hk1 hS => ?_)
          obtain ⟨er31, eM31⟩ := prj hw
          clear hw
          have hW : gW E M31 S H := by rw [← ht]; exact hB
          refine lv_if_ne (tgt := 41) hx hb dX11_rowOf_34 (by decide) (fun c34 => ?_) (fun c34 => ?_)
          · refine lv_iconst (v := 0) hx hb dX11_rowOf_41 (by decide) ?_
            refine lv_istore (lv' := [(8, .int (0)), (0, .ref (eM E 0)), (1, .int (p1)), (2, .int (p2)), (3, .int (p3)), (4, .int (p4)), (5, .int (v5)), (6, .int (v6)), (7, .int (v7))]) hx hb dX11_rowOf_42 hl (by decide) rfl (fun ls hl => ?_)
            refine lv_iload hx hb dX11_rowOf_44 (lv_at hl 0 rfl) ?_
            refine lv_if_eq (tgt := 60) hx hb dX11_rowOf_46 (by decide) (fun c46 => ?_) (fun c46 => ?_)
            · refine lv_iload hx hb dX11_rowOf_60 (lv_at hl 0 rfl) ?_
              refine lv_if_ne (tgt := 100) hx hb dX11_rowOf_62 (by decide) (fun c62 => ?_) (fun c62 => ?_)
              · exact absurd c62 (by decide)
              · refine lv_iload hx hb dX11_rowOf_65 (lv_at hl 7 rfl) ?_
                refine lv_ldc hx hb (v := (-2000000005)) hown (hts (.constant RX11 172 (-2000000005)) (by decide +kernel)) dX11_rowOf_67 ?_
                refine lv_icmp_eq (tgt := 100) hx hb dX11_rowOf_69 (by decide) (fun c69 => ?_) (fun c69 => ?_)
                · obtain ⟨x100, ex100⟩ : ∃ y : Int32, y = v7 + 1 := ⟨_, rfl⟩
                  refine lv_iinc (v := x100) (lv' := [(7, .int (x100)), (8, .int (0)), (0, .ref (eM E 0)), (1, .int (p1)), (2, .int (p2)), (3, .int (p3)), (4, .int (p4)), (5, .int (v5)), (6, .int (v6))]) hx hb dX11_rowOf_100 hl (k := 8) rfl (by rw [ex100]; rfl) (by decide) rfl (fun ls hl => ?_)
                  refine lv_goto (tgt := 10) hx hb dX11_rowOf_103 (by decide) ?_
                  exact ih _ _ _ _ _ _ _ (by first | exact ⟨hi.1.st2 c15 (by decide) ex100, hi.2⟩ | exact ⟨hi.1.st2 c15 (by decide) ex100, by show (M31.1 0 6).toInt ≤ 366; rw [eM31, stn_I]; exact hi.2⟩) (by rw [hq]; subst ex100; subst eM31; subst er31; first | (simp only [q_X11_rowOf_b10, if_neg c15, if_neg c23, if_neg c34, if_pos c69]; done) | contradiction) hW hS (lv_sub hl [2, 3, 4, 5, 6, 7, 8, 0] rfl)
                · refine lv_iload hx hb dX11_rowOf_72 (lv_at hl 6 rfl) ?_
                  refine lv_iload_n hx hb dX11_rowOf_74 rfl (lv_at hl 4 rfl) ?_
                  refine lv_icmp_ne (tgt := 93) hx hb dX11_rowOf_75 (by decide) (fun c75 => ?_) (fun c75 => ?_)
                  · obtain ⟨x93, ex93⟩ : ∃ y : Int32, y = v5 + 1 := ⟨_, rfl⟩
                    refine lv_iinc (v := x93) (lv' := [(5, .int (x93)), (8, .int (0)), (0, .ref (eM E 0)), (1, .int (p1)), (2, .int (p2)), (3, .int (p3)), (4, .int (p4)), (6, .int (v6)), (7, .int (v7))]) hx hb dX11_rowOf_93 hl (k := 6) rfl (by rw [ex93]; rfl) (by decide) rfl (fun ls hl => ?_)
                    refine lv_ldc hx hb (v := (-2000000005)) hown (hts (.constant RX11 172 (-2000000005)) (by decide +kernel)) dX11_rowOf_96 ?_
                    refine lv_istore (lv' := [(6, .int ((-2000000005))), (5, .int (x93)), (8, .int (0)), (0, .ref (eM E 0)), (1, .int (p1)), (2, .int (p2)), (3, .int (p3)), (4, .int (p4)), (7, .int (v7))]) hx hb dX11_rowOf_98 hl (by decide) rfl (fun ls hl => ?_)
                    obtain ⟨x100, ex100⟩ : ∃ y : Int32, y = v7 + 1 := ⟨_, rfl⟩
                    refine lv_iinc (v := x100) (lv' := [(7, .int (x100)), (6, .int ((-2000000005))), (5, .int (x93)), (8, .int (0)), (0, .ref (eM E 0)), (1, .int (p1)), (2, .int (p2)), (3, .int (p3)), (4, .int (p4))]) hx hb dX11_rowOf_100 hl (k := 8) rfl (by rw [ex100]; rfl) (by decide) rfl (fun ls hl => ?_)
                    refine lv_goto (tgt := 10) hx hb dX11_rowOf_103 (by decide) ?_
                    exact ih _ _ _ _ _ _ _ (by first | exact ⟨hi.1.st2 c15 (by decide) ex100, hi.2⟩ | exact ⟨hi.1.st2 c15 (by decide) ex100, by show (M31.1 0 6).toInt ≤ 366; rw [eM31, stn_I]; exact hi.2⟩) (by rw [hq]; subst ex100; subst ex93; subst eM31; subst er31; first | (simp only [q_X11_rowOf_b10, if_neg c15, if_neg c23, if_neg c34, if_neg c69, if_neg c75]; done) | contradiction) hW hS (lv_sub hl [4, 5, 6, 7, 8, 2, 1, 0] rfl)
                  · refine lv_iload hx hb dX11_rowOf_78 (lv_at hl 5 rfl) ?_
                    refine lv_if_ne (tgt := 88) hx hb dX11_rowOf_80 (by decide) (fun c80 => ?_) (fun c80 => ?_)
                    · refine lv_iload hx hb dX11_rowOf_88 (lv_at hl 8 rfl) ?_
                      refine lv_iconst (v := 1) hx hb dX11_rowOf_90 (by decide) ?_
                      refine lv_isub hx hb dX11_rowOf_91 ?_
                      exact W.iret (v := v7 - 1) hx hb hr (fun t ht _ => ⟨⟨v7 - 1, M31, rfl, by rw [hq]; subst eM31; subst er31; first | (simp only [q_X11_rowOf_b10, if_neg c15, if_neg c23, if_neg c34, if_neg c69, if_pos c75, if_neg c80]; done) | contradiction, by dsimp only; rw [ht]; exact hW⟩, hS.F ht⟩) hS.2.2 dX11_rowOf_92
                    · refine lv_iload hx hb dX11_rowOf_83 (lv_at hl 7 rfl) ?_
                      refine lv_goto (tgt := 92) hx hb dX11_rowOf_85 (by decide) ?_
                      exact W.iret (v := v6) hx hb hr (fun t ht _ => ⟨⟨v6, M31, rfl, by rw [hq]; subst eM31; subst er31; first | (simp only [q_X11_rowOf_b10, if_neg c15, if_neg c23, if_neg c34, if_neg c69, if_pos c75, if_pos c80]; done) | contradiction, by dsimp only; rw [ht]; exact hW⟩, hS.F ht⟩) hS.2.2 dX11_rowOf_92
            · exact absurd c46 (by decide)
          · refine lv_iconst (v := 1) hx hb dX11_rowOf_37 (by decide) ?_
            refine lv_goto (tgt := 42) hx hb dX11_rowOf_38 (by decide) ?_
            refine lv_istore (lv' := [(8, .int (1)), (0, .ref (eM E 0)), (1, .int (p1)), (2, .int (p2)), (3, .int (p3)), (4, .int (p4)), (5, .int (v5)), (6, .int (v6)), (7, .int (v7))]) hx hb dX11_rowOf_42 hl (by decide) rfl (fun ls hl => ?_)
            refine lv_iload hx hb dX11_rowOf_44 (lv_at hl 0 rfl) ?_
            refine lv_if_eq (tgt := 60) hx hb dX11_rowOf_46 (by decide) (fun c46 => ?_) (fun c46 => ?_)
            · exact absurd c46 (by decide)
            · refine lv_iload hx hb dX11_rowOf_49 (lv_at hl 7 rfl) ?_
              refine lv_ldc hx hb (v := (-2000000005)) hown (hts (.constant RX11 172 (-2000000005)) (by decide +kernel)) dX11_rowOf_51 ?_
              refine lv_icmp_ne (tgt := 60) hx hb dX11_rowOf_53 (by decide) (fun c53 => ?_) (fun c53 => ?_)
              · refine lv_iload hx hb dX11_rowOf_60 (lv_at hl 0 rfl) ?_
                refine lv_if_ne (tgt := 100) hx hb dX11_rowOf_62 (by decide) (fun c62 => ?_) (fun c62 => ?_)
                · obtain ⟨x100, ex100⟩ : ∃ y : Int32, y = v7 + 1 := ⟨_, rfl⟩
                  refine lv_iinc (v := x100) (lv' := [(7, .int (x100)), (8, .int (1)), (0, .ref (eM E 0)), (1, .int (p1)), (2, .int (p2)), (3, .int (p3)), (4, .int (p4)), (5, .int (v5)), (6, .int (v6))]) hx hb dX11_rowOf_100 hl (k := 8) rfl (by rw [ex100]; rfl) (by decide) rfl (fun ls hl => ?_)
                  refine lv_goto (tgt := 10) hx hb dX11_rowOf_103 (by decide) ?_
                  exact ih _ _ _ _ _ _ _ (by first | exact ⟨hi.1.st2 c15 (by decide) ex100, hi.2⟩ | exact ⟨hi.1.st2 c15 (by decide) ex100, by show (M31.1 0 6).toInt ≤ 366; rw [eM31, stn_I]; exact hi.2⟩) (by rw [hq]; subst ex100; subst eM31; subst er31; first | (simp only [q_X11_rowOf_b10, if_neg c15, if_neg c23, if_pos c34, if_neg c53]; done) | contradiction) hW hS (lv_sub hl [2, 3, 4, 5, 6, 7, 8, 0] rfl)
                · exact absurd c62 (by decide)
              · refine lv_iload hx hb dX11_rowOf_56 (lv_at hl 8 rfl) ?_
                refine lv_istore (lv' := [(6, .int (v7)), (8, .int (1)), (0, .ref (eM E 0)), (1, .int (p1)), (2, .int (p2)), (3, .int (p3)), (4, .int (p4)), (5, .int (v5)), (7, .int (v7))]) hx hb dX11_rowOf_58 hl (by decide) rfl (fun ls hl => ?_)
                refine lv_iload hx hb dX11_rowOf_60 (lv_at hl 1 rfl) ?_
                refine lv_if_ne (tgt := 100) hx hb dX11_rowOf_62 (by decide) (fun c62 => ?_) (fun c62 => ?_)
                · obtain ⟨x100, ex100⟩ : ∃ y : Int32, y = v7 + 1 := ⟨_, rfl⟩
                  refine lv_iinc (v := x100) (lv' := [(7, .int (x100)), (6, .int (v7)), (8, .int (1)), (0, .ref (eM E 0)), (1, .int (p1)), (2, .int (p2)), (3, .int (p3)), (4, .int (p4)), (5, .int (v5))]) hx hb dX11_rowOf_100 hl (k := 8) rfl (by rw [ex100]; rfl) (by decide) rfl (fun ls hl => ?_)
                  refine lv_goto (tgt := 10) hx hb dX11_rowOf_103 (by decide) ?_
                  exact ih _ _ _ _ _ _ _ (by first | exact ⟨hi.1.st2 c15 (by decide) ex100, hi.2⟩ | exact ⟨hi.1.st2 c15 (by decide) ex100, by show (M31.1 0 6).toInt ≤ 366; rw [eM31, stn_I]; exact hi.2⟩) (by rw [hq]; subst ex100; subst eM31; subst er31; first | (simp only [q_X11_rowOf_b10, if_neg c15, if_neg c23, if_pos c34, if_pos c53]; done) | contradiction) hW hS (lv_sub hl [3, 4, 5, 6, 7, 8, 1, 0] rfl)
                · exact absurd c62 (by decide)
  refine lv_iconst (v := 0) hx hb dX11_rowOf_0 (by decide) ?_
  refine lv_istore (lv' := [(5, .int (0)), (0, .ref (eM E 0)), (1, .int (p1)), (2, .int (p2)), (3, .int (p3)), (4, .int (p4))]) hx hb dX11_rowOf_1 hl (by decide) rfl (fun ls hl => ?_)
  refine lv_ldc hx hb (v := (-2000000005)) hown (hts (.constant RX11 172 (-2000000005)) (by decide +kernel)) dX11_rowOf_3 ?_
  refine lv_istore (lv' := [(6, .int ((-2000000005))), (5, .int (0)), (0, .ref (eM E 0)), (1, .int (p1)), (2, .int (p2)), (3, .int (p3)), (4, .int (p4))]) hx hb dX11_rowOf_5 hl (by decide) rfl (fun ls hl => ?_)
  refine lv_iconst (v := 0) hx hb dX11_rowOf_7 (by decide) ?_
  refine lv_istore (lv' := [(7, .int (0)), (6, .int ((-2000000005))), (5, .int (0)), (0, .ref (eM E 0)), (1, .int (p1)), (2, .int (p2)), (3, .int (p3)), (4, .int (p4))]) hx hb dX11_rowOf_8 hl (by decide) rfl (fun ls hl => ?_)
  exact L10 1442 _ _ _ _ _ _ _ (by exact ⟨gL.i 1441, hc⟩) (by first | (simp only [q_X11_rowOf]; done) | contradiction) hW hS (lv_sub hl [3, 4, 5, 6, 7, 2, 1, 0] rfl)

def q_X11_stretches (M : gSm) (p1 : Int32) (p2 : Int32) : Int32 × gSm := (let r4 := q_X11_ask M p1 p2 0; (if 0 ≤ r4 then (let r21 := (q_X11_rowOf M p1 p2 (-1) 0).1; let M21 := (q_X11_rowOf M p1 p2 (-1) 0).2; (r21, M21)) else (r4, M)))
set_option maxHeartbeats 4000000 in
set_option maxRecDepth 100000 in
theorem c_X11_stretches (l : Launch) (E : gEE) (M : gSm) (S : gSc) (p1 : Int32) (p2 : Int32) (hc : (M.1 0 6).toInt ≤ 366) : Met l yX11_stretches wsX11_stretches ({ frames := 7, cells := 0, slots := 0, locals := 184 }) (va_Pc [.ref (eM E 0), .int (p1), .int (p2)] (gP E M S)) (va_Qi (fun r (u : gSm) => (r, u) = q_X11_stretches M p1 p2) (fun u t => gW E u S t.heap) (eA E)) 0 0 (eA E) := by
  refine Met.ofW (cc := cX11_stretches) (maxL := 4) (ret := (some .int)) (by decide) rfl ?_
  intro p e s m args below meth c s₁ B hml hv
  obtain ⟨rfl, hE, hW⟩ := hv
  have hx := B.exec
  have hb := B.bytes
  have hr := B.returns
  have hts := atoms_spec (ws := wsX11_stretches) B.pre
  have hown : s.vm.findClass RX11 = some m.cls := findClass_of_methodNamed B.named
  have hlocks := B.notSynchronized
  have hS : va_S (eA E) s.heap s.heap [] := va_S.rf
  have hl := lv_entry ([.ref (eM E 0), .int (p1), .int (p2)]) (n := 4) (Nat.le_of_ble_eq_true rfl)
  rw [lg_entry_eq]
  generalize (lg_sl ([.ref (eM E 0), .int (p1), .int (p2)]) ++ List.replicate (4 - (lg_sl ([.ref (eM E 0), .int (p1), .int (p2)])).length) Slot.unset).toArray = ls at hl ⊢
  have hl : lv_has ls 4 [(0, .ref (eM E 0)), (1, .int (p1)), (2, .int (p2))] := hl
  have hS : ∃ (H : Heap) (locs : List Loc), H = s.heap ∧ locs = [] ∧ gW E M S H ∧ va_S (eA E) s.heap H locs := ⟨_, _, rfl, rfl, hW, hS⟩
  clear hW
  obtain ⟨H, locs, eH, el, hW, hS⟩ := hS
  rw [← eH, ← el]
  clear eH el
  refine lv_aload_n hx hb dX11_stretches_0 rfl (lv_at hl 0 rfl) ?_
  refine lv_iload_n hx hb dX11_stretches_1 rfl (lv_at hl 1 rfl) ?_
  refine lv_iload_n hx hb dX11_stretches_2 rfl (lv_at hl 2 rfl) ?_
  refine lv_iconst (v := 0) hx hb dX11_stretches_3 (by decide) ?_
  refine k_Si (va_runV (As := [.int (p1), .int (p2), .int (0)]) (rest := []) ⟨hx, hb, hml, hown, hts⟩ (c_X11_ask l E M S p1 p2 0) (cwV 3 hts gX11_stretches_X11_ask rfl rfl rfl (by decide +kernel) ⟨Nat.le_of_ble_eq_true rfl, Nat.le_of_ble_eq_true rfl⟩) (gP.V (ci := 10) (q := (RX11, TX11, 23)) (q0 := 0) hE hS hW rfl rfl) rfl rfl hl.1 rfl (lv_room (Nat.le_of_ble_eq_true rfl)) dX11_stretches_4 ⟨Nat.le_of_ble_eq_true rfl, Nat.le_of_ble_eq_true rfl⟩) (fun r4 er4 => ?_)
  refine lv_istore_n (lv' := [(3, .int (r4)), (0, .ref (eM E 0)), (1, .int (p1)), (2, .int (p2))]) hx hb dX11_stretches_7 rfl hl (by decide) rfl (fun ls hl => ?_)
  refine lv_iload_n hx hb dX11_stretches_8 rfl (lv_at hl 0 rfl) ?_
  refine lv_if_ge (tgt := 16) hx hb dX11_stretches_9 (by decide) (fun c9 => ?_) (fun c9 => ?_)
  · refine lv_aload_n hx hb dX11_stretches_16 rfl (lv_at hl 1 rfl) ?_
    refine lv_iload_n hx hb dX11_stretches_17 rfl (lv_at hl 2 rfl) ?_
    refine lv_iload_n hx hb dX11_stretches_18 rfl (lv_at hl 3 rfl) ?_
    refine lv_iconst (v := (-1)) hx hb dX11_stretches_19 (by decide) ?_
    refine lv_iconst (v := 0) hx hb dX11_stretches_20 (by decide) ?_
    refine va_calli (va_runV (As := [.int (p1), .int (p2), .int ((-1)), .int (0)]) (rest := []) ⟨hx, hb, hml, hown, hts⟩ (c_X11_rowOf l E M S p1 p2 (-1) 0 (askm_of er4 c9).1 (askm_of er4 c9).2.1.1 hc) (cwV 4 hts gX11_stretches_X11_rowOf rfl rfl rfl (by decide +kernel) ⟨Nat.le_of_ble_eq_true rfl, Nat.le_of_ble_eq_true rfl⟩) (gP.V (ci := 10) (q := (RX11, TX11, 23)) (q0 := 0) hE hS hW rfl rfl) rfl rfl hl.1 rfl (lv_room (Nat.le_of_ble_eq_true rfl)) dX11_stretches_21 ⟨Nat.le_of_ble_eq_true rfl, Nat.le_of_ble_eq_true rfl⟩) hS (fun _ _ h => h) (fun _ h => h) (fun r21 M21 t H locs ht hvm hw hB hz1 hk1 hS => ?_)
    obtain ⟨er21, eM21⟩ := prj hw
    clear hw
    have hW : gW E M21 S H := by rw [← ht]; exact hB
    exact W.iret (v := r21) hx hb hr (fun t ht _ => ⟨⟨r21, M21, rfl, by subst eM21; subst er21; subst er4; first | (simp only [q_X11_stretches, if_pos c9]; done) | contradiction, by dsimp only; rw [ht]; exact hW⟩, hS.F ht⟩) hS.2.2 dX11_stretches_24
  · refine lv_iload_n hx hb dX11_stretches_12 rfl (lv_at hl 0 rfl) ?_
    refine lv_goto (tgt := 24) hx hb dX11_stretches_13 (by decide) ?_
    exact W.iret (v := r4) hx hb hr (fun t ht _ => ⟨⟨r4, M, rfl, by subst er4; first | (simp only [q_X11_stretches, if_neg c9]; done) | contradiction, by dsimp only; rw [ht]; exact hW⟩, hS.F ht⟩) hS.2.2 dX11_stretches_24

def q_X11_stretch_b25 (M : gSm) (p1 : Int32) (p2 : Int32) (p3 : Int32) (p4 : Int32) (Z : gSm) : Int32 × gSm := ((-2000000001), Z)
def q_X11_stretch (M : gSm) (p1 : Int32) (p2 : Int32) (p3 : Int32) (p4 : Int32) : Int32 × gSm := (if p3 < 0 then q_X11_stretch_b25 M p1 p2 p3 p4 M else (let r9 := q_X11_isIn (p4.toInt64) 0 1; (if r9 = 0 then q_X11_stretch_b25 M p1 p2 p3 p4 M else (let r19 := q_X11_ask M p1 p2 0; (if 0 ≤ r19 then (let r45 := (q_X11_rowOf M p1 p2 p3 p4).1; let M45 := (q_X11_rowOf M p1 p2 p3 p4).2; (r45, M45)) else (r19, M))))))
set_option maxHeartbeats 4000000 in
set_option maxRecDepth 100000 in
theorem c_X11_stretch (l : Launch) (E : gEE) (M : gSm) (S : gSc) (p1 : Int32) (p2 : Int32) (p3 : Int32) (p4 : Int32) (hc : (M.1 0 6).toInt ≤ 366) : Met l yX11_stretch wsX11_stretch ({ frames := 7, cells := 0, slots := 0, locals := 184 }) (va_Pc [.ref (eM E 0), .int (p1), .int (p2), .int (p3), .int (p4)] (gP E M S)) (va_Qi (fun r (u : gSm) => (r, u) = q_X11_stretch M p1 p2 p3 p4) (fun u t => gW E u S t.heap) (eA E)) 0 0 (eA E) := by
  refine Met.ofW (cc := cX11_stretch) (maxL := 6) (ret := (some .int)) (by decide) rfl ?_
  intro p e s m args below meth c s₁ B hml hv
  obtain ⟨rfl, hE, hW⟩ := hv
  have hx := B.exec
  have hb := B.bytes
  have hr := B.returns
  have hts := atoms_spec (ws := wsX11_stretch) B.pre
  have hown : s.vm.findClass RX11 = some m.cls := findClass_of_methodNamed B.named
  have hlocks := B.notSynchronized
  have hS : va_S (eA E) s.heap s.heap [] := va_S.rf
  have hl := lv_entry ([.ref (eM E 0), .int (p1), .int (p2), .int (p3), .int (p4)]) (n := 6) (Nat.le_of_ble_eq_true rfl)
  rw [lg_entry_eq]
  generalize (lg_sl ([.ref (eM E 0), .int (p1), .int (p2), .int (p3), .int (p4)]) ++ List.replicate (6 - (lg_sl ([.ref (eM E 0), .int (p1), .int (p2), .int (p3), .int (p4)])).length) Slot.unset).toArray = ls at hl ⊢
  have hl : lv_has ls 6 [(0, .ref (eM E 0)), (1, .int (p1)), (2, .int (p2)), (3, .int (p3)), (4, .int (p4))] := hl
  have hS : ∃ (H : Heap) (locs : List Loc), H = s.heap ∧ locs = [] ∧ gW E M S H ∧ va_S (eA E) s.heap H locs := ⟨_, _, rfl, rfl, hW, hS⟩
  clear hW
  obtain ⟨H, locs, eH, el, hW, hS⟩ := hS
  rw [← eH, ← el]
  clear eH el
  have J25 : ∀ (Z : gSm) (H : Heap) (locs : List Loc) (ls : Array Slot), q_X11_stretch M p1 p2 p3 p4 = q_X11_stretch_b25 M p1 p2 p3 p4 Z → gW E Z S H → va_S (eA E) s.heap H locs → lv_has ls 6 [(0, .ref (eM E 0)), (1, .int (p1)), (2, .int (p2)), (3, .int (p3)), (4, .int (p4))] → W p l e (headSpec wsX11_stretch ({ frames := 7, cells := 0, slots := 0, locals := 184 })).room s m ([.ref (eM E 0), .int (p1), .int (p2), .int (p3), .int (p4)] : List Value).toArray below meth c H locs 0 0 (MQ below (va_Qi (fun r (u : gSm) => (r, u) = q_X11_stretch M p1 p2 p3 p4) (fun u t => gW E u S t.heap) (eA E)) ([.ref (eM E 0), .int (p1), .int (p2), .int (p3), .int (p4)] : List Value).toArray s 0 0 (eA E)) (F0 m 25 ls []) := by
    intro Z H locs ls hq hW hS hl
    refine lv_ldc hx hb (v := (-2000000001)) hown (hts (.constant RX11 73 (-2000000001)) (by decide +kernel)) dX11_stretch_25 ?_
    refine lv_istore (lv' := [(5, .int ((-2000000001))), (0, .ref (eM E 0)), (1, .int (p1)), (2, .int (p2)), (3, .int (p3)), (4, .int (p4))]) hx hb dX11_stretch_27 hl (by decide) rfl (fun ls hl => ?_)
    refine lv_iload hx hb dX11_stretch_29 (lv_at hl 0 rfl) ?_
    refine lv_if_ge (tgt := 39) hx hb dX11_stretch_31 (by decide) (fun c31 => ?_) (fun c31 => ?_)
    · exact absurd c31 (by decide)
    · refine lv_iload hx hb dX11_stretch_34 (lv_at hl 0 rfl) ?_
      refine lv_goto (tgt := 48) hx hb dX11_stretch_36 (by decide) ?_
      exact W.iret (v := (-2000000001)) hx hb hr (fun t ht _ => ⟨⟨(-2000000001), Z, rfl, by rw [hq]; first | (simp only [q_X11_stretch_b25]; done) | contradiction, by dsimp only; rw [ht]; exact hW⟩, hS.F ht⟩) hS.2.2 dX11_stretch_48
  refine lv_iload_n hx hb dX11_stretch_0 rfl (lv_at hl 3 rfl) ?_
  refine lv_if_lt (tgt := 25) hx hb dX11_stretch_1 (by decide) (fun c1 => ?_) (fun c1 => ?_)
  · exact J25 _ _ _ _ (by first | (simp only [q_X11_stretch, if_pos c1]; done) | contradiction) hW hS (lv_sub hl [0, 1, 2, 3, 4] rfl)
  · refine lv_iload hx hb dX11_stretch_4 (lv_at hl 4 rfl) ?_
    refine lv_i2l (v := p4.toInt64) hx hb dX11_stretch_6 rfl ?_
    refine lv_lconst (v := 0) hx hb dX11_stretch_7 (by decide) ?_
    refine lv_lconst (v := 1) hx hb dX11_stretch_8 (by decide) ?_
    refine k_Si (va_runS (As := [.long (p4.toInt64), .long (0), .long (1)]) (rest := []) ⟨hx, hb, hml, hown, hts⟩ (c_X11_isIn l (p4.toInt64) 0 1) (va_cwS 3 hts gX11_stretch_X11_isIn rfl rfl rfl (by decide +kernel) ⟨Nat.le_of_ble_eq_true rfl, Nat.le_of_ble_eq_true rfl⟩) gP0 rfl rfl hl.1 rfl (lv_room (Nat.le_of_ble_eq_true rfl)) dX11_stretch_9 ⟨Nat.le_of_ble_eq_true rfl, Nat.le_of_ble_eq_true rfl⟩) (fun r9 er9 => ?_)
    refine lv_if_eq (tgt := 25) hx hb dX11_stretch_12 (by decide) (fun c12 => ?_) (fun c12 => ?_)
    · exact J25 _ _ _ _ (by subst er9; first | (simp only [q_X11_stretch, if_neg c1, if_pos c12]; done) | contradiction) hW hS (lv_sub hl [0, 1, 2, 3, 4] rfl)
    · refine lv_aload_n hx hb dX11_stretch_15 rfl (lv_at hl 0 rfl) ?_
      refine lv_iload_n hx hb dX11_stretch_16 rfl (lv_at hl 1 rfl) ?_
      refine lv_iload_n hx hb dX11_stretch_17 rfl (lv_at hl 2 rfl) ?_
      refine lv_iconst (v := 0) hx hb dX11_stretch_18 (by decide) ?_
      refine k_Si (va_runV (As := [.int (p1), .int (p2), .int (0)]) (rest := []) ⟨hx, hb, hml, hown, hts⟩ (c_X11_ask l E M S p1 p2 0) (cwV 3 hts gX11_stretch_X11_ask rfl rfl rfl (by decide +kernel) ⟨Nat.le_of_ble_eq_true rfl, Nat.le_of_ble_eq_true rfl⟩) (gP.V (ci := 10) (q := (RX11, TX11, 23)) (q0 := 0) hE hS hW rfl rfl) rfl rfl hl.1 rfl (lv_room (Nat.le_of_ble_eq_true rfl)) dX11_stretch_19 ⟨Nat.le_of_ble_eq_true rfl, Nat.le_of_ble_eq_true rfl⟩) (fun r19 er19 => ?_)
      refine lv_goto (tgt := 27) hx hb dX11_stretch_22 (by decide) ?_
      refine lv_istore (lv' := [(5, .int (r19)), (0, .ref (eM E 0)), (1, .int (p1)), (2, .int (p2)), (3, .int (p3)), (4, .int (p4))]) hx hb dX11_stretch_27 hl (by decide) rfl (fun ls hl => ?_)
      refine lv_iload hx hb dX11_stretch_29 (lv_at hl 0 rfl) ?_
      refine lv_if_ge (tgt := 39) hx hb dX11_stretch_31 (by decide) (fun c31 => ?_) (fun c31 => ?_)
      · refine lv_aload_n hx hb dX11_stretch_39 rfl (lv_at hl 1 rfl) ?_
        refine lv_iload_n hx hb dX11_stretch_40 rfl (lv_at hl 2 rfl) ?_
        refine lv_iload_n hx hb dX11_stretch_41 rfl (lv_at hl 3 rfl) ?_
        refine lv_iload_n hx hb dX11_stretch_42 rfl (lv_at hl 4 rfl) ?_
        refine lv_iload hx hb dX11_stretch_43 (lv_at hl 5 rfl) ?_
        refine va_calli (va_runV (As := [.int (p1), .int (p2), .int (p3), .int (p4)]) (rest := []) ⟨hx, hb, hml, hown, hts⟩ (c_X11_rowOf l E M S p1 p2 p3 p4 (askm_of er19 c31).1 (askm_of er19 c31).2.1.1 hc) (cwV 4 hts gX11_stretch_X11_rowOf rfl rfl rfl (by decide +kernel) ⟨Nat.le_of_ble_eq_true rfl, Nat.le_of_ble_eq_true rfl⟩) (gP.V (ci := 10) (q := (RX11, TX11, 23)) (q0 := 0) hE hS hW rfl rfl) rfl rfl hl.1 rfl (lv_room (Nat.le_of_ble_eq_true rfl)) dX11_stretch_45 ⟨Nat.le_of_ble_eq_true rfl, Nat.le_of_ble_eq_true rfl⟩) hS (fun _ _ h => h) (fun _ h => h) (fun r45 M45 t H locs ht hvm hw hB hz1 hk1 hS => ?_)
        obtain ⟨er45, eM45⟩ := prj hw
        clear hw
        have hW : gW E M45 S H := by rw [← ht]; exact hB
        exact W.iret (v := r45) hx hb hr (fun t ht _ => ⟨⟨r45, M45, rfl, by subst eM45; subst er45; subst er19; subst er9; first | (simp only [q_X11_stretch, if_neg c1, if_neg c12, if_pos c31]; done) | contradiction, by dsimp only; rw [ht]; exact hW⟩, hS.F ht⟩) hS.2.2 dX11_stretch_48
      · refine lv_iload hx hb dX11_stretch_34 (lv_at hl 0 rfl) ?_
        refine lv_goto (tgt := 48) hx hb dX11_stretch_36 (by decide) ?_
        exact W.iret (v := r19) hx hb hr (fun t ht _ => ⟨⟨r19, M, rfl, by subst er19; subst er9; first | (simp only [q_X11_stretch, if_neg c1, if_neg c12, if_neg c31]; done) | contradiction, by dsimp only; rw [ht]; exact hW⟩, hS.F ht⟩) hS.2.2 dX11_stretch_48
