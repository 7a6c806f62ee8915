def q_X11_isHiding_b115 (M : gSm) (p1 : Int32) (p2 : Int32) (p3 : Int32) (v12 : Int64) (v14 : Int64) (v16 : Int64) (v18 : Int64) : Int32 := (if v16 = 0 then 0 else (if v12 ≤ 0 then (if 0 ≤ v12 then (if v18 ≤ 0 then 0 else (let r167 := q_X11_get M p1 5; (if ((r167.toInt64) * v16) ≤ ((M.2 0 13) * v18) then 0 else 1))) else (if v14 < 0 then 0 else (if v18 ≤ 0 then 0 else (let r167 := q_X11_get M p1 5; (if ((r167.toInt64) * v16) ≤ ((M.2 0 13) * v18) then 0 else 1))))) else (if 0 < v14 then 0 else (if 0 ≤ v12 then (if v18 ≤ 0 then 0 else (let r167 := q_X11_get M p1 5; (if ((r167.toInt64) * v16) ≤ ((M.2 0 13) * v18) then 0 else 1))) else (if v14 < 0 then 0 else (if v18 ≤ 0 then 0 else (let r167 := q_X11_get M p1 5; (if ((r167.toInt64) * v16) ≤ ((M.2 0 13) * v18) then 0 else 1))))))))
def q_X11_isHiding (M : gSm) (p1 : Int32) (p2 : Int32) (p3 : Int32) : Int32 := (let r3 := q_X11_get M p1 1; (let x9 := (r3 - p2).toInt64; (let r14 := q_X11_get M p1 2; (let x20 := (r14 - p3).toInt64; (let r25 := q_X11_get M p1 3; (let x31 := (r25 - p2).toInt64; (let r36 := q_X11_get M p1 4; (let x42 := (r36 - p3).toInt64; (let x59 := ((M.2 0 11) * x20) - ((M.2 0 12) * x9); (let x76 := ((M.2 0 11) * x42) - ((M.2 0 12) * x31); (let x83 := x76 - x59; (let x96 := (x9 * x42) - (x20 * x31); (if 0 ≤ x83 then q_X11_isHiding_b115 M p1 p2 p3 x59 x76 x83 x96 else (let x108 := -x83; (let x113 := -x96; q_X11_isHiding_b115 M p1 p2 p3 x59 x76 x108 x113)))))))))))))))
set_option maxHeartbeats 4000000 in
set_option maxRecDepth 100000 in
theorem c_X11_isHiding (l : Launch) (E : gEE) (M : gSm) (S : gSc) (p1 : Int32) (p2 : Int32) (p3 : Int32) (hp : isP p1) : Met l yX11_isHiding wsX11_isHiding ({ frames := 1, cells := 0, slots := 0, locals := 22 }) (va_Pc [.ref (eM E 0), .int (p1), .int (p2), .int (p3)] (gP E M S)) (vp_Si (fun r => r = q_X11_isHiding M p1 p2 p3)) 0 0 (fun _ => False) := by
  refine Met.ofW (cc := cX11_isHiding) (maxL := 20) (ret := (some .boolean)) (by decide) rfl ?_
  intro p e s m args below meth c s₁ B hml hv
  obtain ⟨rfl, hE, hW⟩ := hv
  have hx := B.exec
  have hb := B.bytes
  have hr := B.returns
  have hts := atoms_spec (ws := wsX11_isHiding) B.pre
  have hown : s.vm.findClass RX11 = some m.cls := findClass_of_methodNamed B.named
  have hlocks := B.notSynchronized
  have hinX11 : ∀ w ∈ wsX110, w ∈ wsX11_isHiding := by decide +kernel
  have hS : va_S (eA E) s.heap s.heap [] := va_S.rf
  have hl := lv_entry ([.ref (eM E 0), .int (p1), .int (p2), .int (p3)]) (n := 20) (Nat.le_of_ble_eq_true rfl)
  rw [lg_entry_eq]
  generalize (lg_sl ([.ref (eM E 0), .int (p1), .int (p2), .int (p3)]) ++ List.replicate (20 - (lg_sl ([.ref (eM E 0), .int (p1), .int (p2), .int (p3)])).length) Slot.unset).toArray = ls at hl ⊢
  have hl : lv_has ls 20 [(0, .ref (eM E 0)), (1, .int (p1)), (2, .int (p2)), (3, .int (p3))] := hl
  have J115 : ∀ (v12 : Int64) (v14 : Int64) (v16 : Int64) (v18 : Int64) (ls : Array Slot), q_X11_isHiding M p1 p2 p3 = q_X11_isHiding_b115 M p1 p2 p3 v12 v14 v16 v18 → lv_has ls 20 [(0, .ref (eM E 0)), (1, .int (p1)), (12, .long (v12)), (14, .long (v14)), (16, .long (v16)), (18, .long (v18))] → W p l e (headSpec wsX11_isHiding ({ frames := 1, cells := 0, slots := 0, locals := 22 })).room s m ([.ref (eM E 0), .int (p1), .int (p2), .int (p3)] : List Value).toArray below meth c s.heap [] 0 0 (MQ below (vp_Si (fun r => r = q_X11_isHiding M p1 p2 p3)) ([.ref (eM E 0), .int (p1), .int (p2), .int (p3)] : List Value).toArray s 0 0 (fun _ => False)) (F0 m 115 ls []) := by
    intro v12 v14 v16 v18 ls hq hl
    refine lv_lload hx hb dX11_isHiding_115 (lv_at hl 4 rfl) ?_
    refine lv_lconst (v := 0) hx hb dX11_isHiding_117 (by decide) ?_
    refine k_leq (tgt := 182) hx hb dX11_isHiding_118 dX11_isHiding_119 (by decide) (fun c118 => ?_) (fun c118 => ?_)
    · refine lv_iconst (v := 0) hx hb dX11_isHiding_182 (by decide) ?_
      exact W.zret (v := 0) hx hb hr rfl (fun t ht _ => ⟨0, rfl, by rw [hq]; first | (simp only [q_X11_isHiding_b115, if_pos c118]; done) | contradiction, ht⟩) (fun _ h => nomatch h) dX11_isHiding_183
    · refine lv_lload hx hb dX11_isHiding_122 (lv_at hl 2 rfl) ?_
      refine lv_lconst (v := 0) hx hb dX11_isHiding_124 (by decide) ?_
      refine k_lle (tgt := 136) hx hb dX11_isHiding_125 dX11_isHiding_126 (by decide) (fun c125 => ?_) (fun c125 => ?_)
      · refine lv_lload hx hb dX11_isHiding_136 (lv_at hl 2 rfl) ?_
        refine lv_lconst (v := 0) hx hb dX11_isHiding_138 (by decide) ?_
        refine k_lge (tgt := 150) hx hb dX11_isHiding_139 dX11_isHiding_140 (by decide) (fun c139 => ?_) (fun c139 => ?_)
        · refine lv_lload hx hb dX11_isHiding_150 (lv_at hl 5 rfl) ?_
          refine lv_lconst (v := 0) hx hb dX11_isHiding_152 (by decide) ?_
          refine k_lle (tgt := 182) hx hb dX11_isHiding_153 dX11_isHiding_154 (by decide) (fun c153 => ?_) (fun c153 => ?_)
          · refine lv_iconst (v := 0) hx hb dX11_isHiding_182 (by decide) ?_
            exact W.zret (v := 0) hx hb hr rfl (fun t ht _ => ⟨0, rfl, by rw [hq]; first | (simp only [q_X11_isHiding_b115, if_neg c118, if_pos c125, if_pos c139, if_pos c153]; done) | contradiction, ht⟩) (fun _ h => nomatch h) dX11_isHiding_183
          · refine lv_aload_n hx hb dX11_isHiding_157 rfl (lv_at hl 0 rfl) ?_
            refine va_get (D := eD E) (cl := vwCl) (tys := eT E) (ci := 10) (C := RX11) (T := TX11) (N := 23) (v := .long (M.2 0 13)) hx hb hts hinX11 hown hE.1 hW.1 0 rfl rfl 13 (by decide) (hts (.fieldLink RX11 118 "DialGardenModel" "up" "J") (by decide +kernel)) (fun _ h9 => h9) rfl dX11_isHiding_158 ?_
            refine lv_lload hx hb dX11_isHiding_161 (lv_at hl 5 rfl) ?_
            refine lv_lmul hx hb dX11_isHiding_163 ?_
            refine lv_aload_n hx hb dX11_isHiding_164 rfl (lv_at hl 0 rfl) ?_
            refine lv_iload_n hx hb dX11_isHiding_165 rfl (lv_at hl 1 rfl) ?_
            refine lv_iconst (v := 5) hx hb dX11_isHiding_166 (by decide) ?_
            refine k_Si (va_runV (As := [.int (p1), .int (5)]) (rest := [.long ((M.2 0 13) * v18)]) ⟨hx, hb, hml, hown, hts⟩ (c_X11_get l E M S p1 5 (gx hp (by decide))) (cwV 2 hts gX11_isHiding_X11_get rfl rfl rfl (by decide +kernel) ⟨Nat.le_of_ble_eq_true rfl, Nat.le_of_ble_eq_true rfl⟩) (gP.V (ci := 10) (q := (RX11, TX11, 23)) (q0 := 0) hE hS hW rfl rfl) rfl rfl hl.1 rfl (lv_room (Nat.le_of_ble_eq_true rfl)) dX11_isHiding_167 ⟨Nat.le_of_ble_eq_true rfl, Nat.le_of_ble_eq_true rfl⟩) (fun r167 er167 => ?_)
            refine lv_i2l (v := r167.toInt64) hx hb dX11_isHiding_170 rfl ?_
            refine lv_lload hx hb dX11_isHiding_171 (lv_at hl 4 rfl) ?_
            refine lv_lmul hx hb dX11_isHiding_173 ?_
            refine k_lge (tgt := 182) hx hb dX11_isHiding_174 dX11_isHiding_175 (by decide) (fun c174 => ?_) (fun c174 => ?_)
            · refine lv_iconst (v := 0) hx hb dX11_isHiding_182 (by decide) ?_
              exact W.zret (v := 0) hx hb hr rfl (fun t ht _ => ⟨0, rfl, by rw [hq]; subst er167; first | (simp only [q_X11_isHiding_b115, if_neg c118, if_pos c125, if_pos c139, if_neg c153, if_pos c174]; done) | contradiction, ht⟩) (fun _ h => nomatch h) dX11_isHiding_183
            · refine lv_iconst (v := 1) hx hb dX11_isHiding_178 (by decide) ?_
              refine lv_goto (tgt := 183) hx hb dX11_isHiding_179 (by decide) ?_
              exact W.zret (v := 1) hx hb hr rfl (fun t ht _ => ⟨1, rfl, by rw [hq]; subst er167; first | (simp only [q_X11_isHiding_b115, if_neg c118, if_pos c125, if_pos c139, if_neg c153, if_neg c174]; done) | contradiction, ht⟩) (fun _ h => nomatch h) dX11_isHiding_183
        · refine lv_lload hx hb dX11_isHiding_143 (lv_at hl 3 rfl) ?_
          refine lv_lconst (v := 0) hx hb dX11_isHiding_145 (by decide) ?_
          refine k_llt (tgt := 182) hx hb dX11_isHiding_146 dX11_isHiding_147 (by decide) (fun c146 => ?_) (fun c146 => ?_)
          · refine lv_iconst (v := 0) hx hb dX11_isHiding_182 (by decide) ?_
            exact W.zret (v := 0) hx hb hr rfl (fun t ht _ => ⟨0, rfl, by rw [hq]; first | (simp only [q_X11_isHiding_b115, if_neg c118, if_pos c125, if_neg c139, if_pos c146]; done) | contradiction, ht⟩) (fun _ h => nomatch h) dX11_isHiding_183
          · refine lv_lload hx hb dX11_isHiding_150 (lv_at hl 5 rfl) ?_
            refine lv_lconst (v := 0) hx hb dX11_isHiding_152 (by decide) ?_
            refine k_lle (tgt := 182) hx hb dX11_isHiding_153 dX11_isHiding_154 (by decide) (fun c153 => ?_) (fun c153 => ?_)
            · refine lv_iconst (v := 0) hx hb dX11_isHiding_182 (by decide) ?_
              exact W.zret (v := 0) hx hb hr rfl (fun t ht _ => ⟨0, rfl, by rw [hq]; first | (simp only [q_X11_isHiding_b115, if_neg c118, if_pos c125, if_neg c139, if_neg c146, if_pos c153]; done) | contradiction, ht⟩) (fun _ h => nomatch h) dX11_isHiding_183
            · refine lv_aload_n hx hb dX11_isHiding_157 rfl (lv_at hl 0 rfl) ?_
              refine va_get (D := eD E) (cl := vwCl) (tys := eT E) (ci := 10) (C := RX11) (T := TX11) (N := 23) (v := .long (M.2 0 13)) hx hb hts hinX11 hown hE.1 hW.1 0 rfl rfl 13 (by decide) (hts (.fieldLink RX11 118 "DialGardenModel" "up" "J") (by decide +kernel)) (fun _ h9 => h9) rfl dX11_isHiding_158 ?_
              refine lv_lload hx hb dX11_isHiding_161 (lv_at hl 5 rfl) ?_
              refine lv_lmul hx hb dX11_isHiding_163 ?_
              refine lv_aload_n hx hb dX11_isHiding_164 rfl (lv_at hl 0 rfl) ?_
              refine lv_iload_n hx hb dX11_isHiding_165 rfl (lv_at hl 1 rfl) ?_
              refine lv_iconst (v := 5) hx hb dX11_isHiding_166 (by decide) ?_
              refine k_Si (va_runV (As := [.int (p1), .int (5)]) (rest := [.long ((M.2 0 13) * v18)]) ⟨hx, hb, hml, hown, hts⟩ (c_X11_get l E M S p1 5 (gx hp (by decide))) (cwV 2 hts gX11_isHiding_X11_get rfl rfl rfl (by decide +kernel) ⟨Nat.le_of_ble_eq_true rfl, Nat.le_of_ble_eq_true rfl⟩) (gP.V (ci := 10) (q := (RX11, TX11, 23)) (q0 := 0) hE hS hW rfl rfl) rfl rfl hl.1 rfl (lv_room (Nat.le_of_ble_eq_true rfl)) dX11_isHiding_167 ⟨Nat.le_of_ble_eq_true rfl, Nat.le_of_ble_eq_true rfl⟩) (fun r167 er167 => ?_)
              refine lv_i2l (v := r167.toInt64) hx hb dX11_isHiding_170 rfl ?_
              refine lv_lload hx hb dX11_isHiding_171 (lv_at hl 4 rfl) ?_
              refine lv_lmul hx hb dX11_isHiding_173 ?_
              refine k_lge (tgt := 182) hx hb dX11_isHiding_174 dX11_isHiding_175 (by decide) (fun c174 => ?_) (fun c174 => ?_)
              · refine lv_iconst (v := 0) hx hb dX11_isHiding_182 (by decide) ?_
                exact W.zret (v := 0) hx hb hr rfl (fun t ht _ => ⟨0, rfl, by rw [hq]; subst er167; first | (simp only [q_X11_isHiding_b115, if_neg c118, if_pos c125, if_neg c139, if_neg c146, if_neg c153, if_pos c174]; done) | contradiction, ht⟩) (fun _ h => nomatch h) dX11_isHiding_183
              · refine lv_iconst (v := 1) hx hb dX11_isHiding_178 (by decide) ?_
                refine lv_goto (tgt := 183) hx hb dX11_isHiding_179 (by decide) ?_
                exact W.zret (v := 1) hx hb hr rfl (fun t ht _ => ⟨1, rfl, by rw [hq]; subst er167; first | (simp only [q_X11_isHiding_b115, if_neg c118, if_pos c125, if_neg c139, if_neg c146, if_neg c153, if_neg c174]; done) | contradiction, ht⟩) (fun _ h => nomatch h) dX11_isHiding_183
      · refine lv_lload hx hb dX11_isHiding_129 (lv_at hl 3 rfl) ?_
        refine lv_lconst (v := 0) hx hb dX11_isHiding_131 (by decide) ?_
        refine k_lgt (tgt := 182) hx hb dX11_isHiding_132 dX11_isHiding_133 (by decide) (fun c132 => ?_) (fun c132 => ?_)
        · refine lv_iconst (v := 0) hx hb dX11_isHiding_182 (by decide) ?_
          exact W.zret (v := 0) hx hb hr rfl (fun t ht _ => ⟨0, rfl, by rw [hq]; first | (simp only [q_X11_isHiding_b115, if_neg c118, if_neg c125, if_pos c132]; done) | contradiction, ht⟩) (fun _ h => nomatch h) dX11_isHiding_183
        · refine lv_lload hx hb dX11_isHiding_136 (lv_at hl 2 rfl) ?_
          refine lv_lconst (v := 0) hx hb dX11_isHiding_138 (by decide) ?_
          refine k_lge (tgt := 150) hx hb dX11_isHiding_139 dX11_isHiding_140 (by decide) (fun c139 => ?_) (fun c139 => ?_)
          · refine lv_lload hx hb dX11_isHiding_150 (lv_at hl 5 rfl) ?_
            refine lv_lconst (v := 0) hx hb dX11_isHiding_152 (by decide) ?_
            refine k_lle (tgt := 182) hx hb dX11_isHiding_153 dX11_isHiding_154 (by decide) (fun c153 => ?_) (fun c153 => ?_)
            · refine lv_iconst (v := 0) hx hb dX11_isHiding_182 (by decide) ?_
              exact W.zret (v := 0) hx hb hr rfl (fun t ht _ => ⟨0, rfl, by rw [hq]; first | (simp only [q_X11_isHiding_b115, if_neg c118, if_neg c125, if_neg c132, if_pos c139, if_pos c153]; done) | contradiction, ht⟩) (fun _ h => nomatch h) dX11_isHiding_183
            · refine lv_aload_n hx hb dX11_isHiding_157 rfl (lv_at hl 0 rfl) ?_
              refine va_get (D := eD E) (cl := vwCl) (tys := eT E) (ci := 10) (C := RX11) (T := TX11) (N := 23) (v := .long (M.2 0 13)) hx hb hts hinX11 hown hE.1 hW.1 0 rfl rfl 13 (by decide) (hts (.fieldLink RX11 118 "DialGardenModel" "up" "J") (by decide +kernel)) (fun _ h9 => h9) rfl dX11_isHiding_158 ?_
              refine lv_lload hx hb dX11_isHiding_161 (lv_at hl 5 rfl) ?_
              refine lv_lmul hx hb dX11_isHiding_163 ?_
              refine lv_aload_n hx hb dX11_isHiding_164 rfl (lv_at hl 0 rfl) ?_
              refine lv_iload_n hx hb dX11_isHiding_165 rfl (lv_at hl 1 rfl) ?_
              refine lv_iconst (v := 5) hx hb dX11_isHiding_166 (by decide) ?_
              refine k_Si (va_runV (As := [.int (p1), .int (5)]) (rest := [.long ((M.2 0 13) * v18)]) ⟨hx, hb, hml, hown, hts⟩ (c_X11_get l E M S p1 5 (gx hp (by decide))) (cwV 2 hts gX11_isHiding_X11_get rfl rfl rfl (by decide +kernel) ⟨Nat.le_of_ble_eq_true rfl, Nat.le_of_ble_eq_true rfl⟩) (gP.V (ci := 10) (q := (RX11, TX11, 23)) (q0 := 0) hE hS hW rfl rfl) rfl rfl hl.1 rfl (lv_room (Nat.le_of_ble_eq_true rfl)) dX11_isHiding_167 ⟨Nat.le_of_ble_eq_true rfl, Nat.le_of_ble_eq_true rfl⟩) (fun r167 er167 => ?_)
              refine lv_i2l (v := r167.toInt64) hx hb dX11_isHiding_170 rfl ?_
              refine lv_lload hx hb dX11_isHiding_171 (lv_at hl 4 rfl) ?_
              refine lv_lmul hx hb dX11_isHiding_173 ?_
              refine k_lge (tgt := 182) hx hb dX11_isHiding_174 dX11_isHiding_175 (by decide) (fun c174 => ?_) (fun c174 => ?_)
              · refine lv_iconst (v := 0) hx hb dX11_isHiding_182 (by decide) ?_
                exact W.zret (v := 0) hx hb hr rfl (fun t ht _ => ⟨0, rfl, by rw [hq]; subst er167; first | (simp only [q_X11_isHiding_b115, if_neg c118, if_neg c125, if_neg c132, if_pos c139, if_neg c153, if_pos c174]; done) | contradiction, ht⟩) (fun _ h => nomatch h) dX11_isHiding_183
              · refine lv_iconst (v := 1) hx hb dX11_isHiding_178 (by decide) ?_
                refine lv_goto (tgt := 183) hx hb dX11_isHiding_179 (by decide) ?_
                exact W.zret (v := 1) hx hb hr rfl (fun t ht _ => ⟨1, rfl, by rw [hq]; subst er167; first | (simp only [q_X11_isHiding_b115, if_neg c118, if_neg c125, if_neg c132, if_pos c139, if_neg c153, if_neg c174]; done) | contradiction, ht⟩) (fun _ h => nomatch h) dX11_isHiding_183
          · refine lv_lload hx hb dX11_isHiding_143 (lv_at hl 3 rfl) ?_
            refine lv_lconst (v := 0) hx hb dX11_isHiding_145 (by decide) ?_
            refine k_llt (tgt := 182) hx hb dX11_isHiding_146 dX11_isHiding_147 (by decide) (fun c146 => ?_) (fun c146 => ?_)
            · refine lv_iconst (v := 0) hx hb dX11_isHiding_182 (by decide) ?_
              exact W.zret (v := 0) hx hb hr rfl (fun t ht _ => ⟨0, rfl, by rw [hq]; first | (simp only [q_X11_isHiding_b115, if_neg c118, if_neg c125, if_neg c132, if_neg c139, if_pos c146]; done) | contradiction, ht⟩) (fun _ h => nomatch h) dX11_isHiding_183
            · refine lv_lload hx hb dX11_isHiding_150 (lv_at hl 5 rfl) ?_
              refine lv_lconst (v := 0) hx hb dX11_isHiding_152 (by decide) ?_
              refine k_lle (tgt := 182) hx hb dX11_isHiding_153 dX11_isHiding_154 (by decide) (fun c153 => ?_) (fun c153 => ?_)
              · refine lv_iconst (v := 0) hx hb dX11_isHiding_182 (by decide) ?_
                exact W.zret (v := 0) hx hb hr rfl (fun t ht _ => ⟨0, rfl, by rw [hq]; first | (simp only [q_X11_isHiding_b115, if_neg c118, if_neg c125, if_neg c132, if_neg c139, if_neg c146, if_pos c153]; done) | contradiction, ht⟩) (fun _ h => nomatch h) dX11_isHiding_183
              · refine lv_aload_n hx hb dX11_isHiding_157 rfl (lv_at hl 0 rfl) ?_
                refine va_get (D := eD E) (cl := vwCl) (tys := eT E) (ci := 10) (C := RX11) (T := TX11) (N := 23) (v := .long (M.2 0 13)) hx hb hts hinX11 hown hE.1 hW.1 0 rfl rfl 13 (by decide) (hts (.fieldLink RX11 118 "DialGardenModel" "up" "J") (by decide +kernel)) (fun _ h9 => h9) rfl dX11_isHiding_158 ?_
                refine lv_lload hx hb dX11_isHiding_161 (lv_at hl 5 rfl) ?_
                refine lv_lmul hx hb dX11_isHiding_163 ?_
                refine lv_aload_n hx hb dX11_isHiding_164 rfl (lv_at hl 0 rfl) ?_
                refine lv_iload_n hx hb dX11_isHiding_165 rfl (lv_at hl 1 rfl) ?_
                refine lv_iconst (v := 5) hx hb dX11_isHiding_166 (by decide) ?_
                refine k_Si (va_runV (As := [.int (p1), .int (5)]) (rest := [.long ((M.2 0 13) * v18)]) ⟨hx, hb, hml, hown, hts⟩ (c_X11_get l E M S p1 5 (gx hp (by decide))) (cwV 2 hts gX11_isHiding_X11_get rfl rfl rfl (by decide +kernel) ⟨Nat.le_of_ble_eq_true rfl, Nat.le_of_ble_eq_true rfl⟩) (gP.V (ci := 10) (q := (RX11, TX11, 23)) (q0 := 0) hE hS hW rfl rfl) rfl rfl hl.1 rfl (lv_room (Nat.le_of_ble_eq_true rfl)) dX11_isHiding_167 ⟨Nat.le_of_ble_eq_true rfl, Nat.le_of_ble_eq_true rfl⟩) (fun r167 er167 => ?_)
                refine lv_i2l (v := r167.toInt64) hx hb dX11_isHiding_170 rfl ?_
                refine lv_lload hx hb dX11_isHiding_171 (lv_at hl 4 rfl) ?_
                refine lv_lmul hx hb dX11_isHiding_173 ?_
                refine k_lge (tgt := 182) hx hb dX11_isHiding_174 dX11_isHiding_175 (by decide) (fun c174 => ?_) (fun c174 => ?_)
                · refine lv_iconst (v := 0) hx hb dX11_isHiding_182 (by decide) ?_
                  exact W.zret (v := 0) hx hb hr rfl (fun t ht _ => ⟨0, rfl, by rw [hq]; subst er167; first | (simp only [q_X11_isHiding_b115, if_neg c118, if_neg c125, if_neg c132, if_neg c139, if_neg c146, if_neg c153, if_pos c174]; done) | contradiction, ht⟩) (fun _ h => nomatch h) dX11_isHiding_183
                · refine lv_iconst (v := 1) hx hb dX11_isHiding_178 (by decide) ?_
                  refine lv_goto (tgt := 183) hx hb dX11_isHiding_179 (by decide) ?_
                  exact W.zret (v := 1) hx hb hr rfl (fun t ht _ => ⟨1, rfl, by rw [hq]; subst er167; first | (simp only [q_X11_isHiding_b115, if_neg c118, if_neg c125, if_neg c132, if_neg c139, if_neg c146, if_neg c153, if_neg c174]; done) | contradiction, ht⟩) (fun _ h => nomatch h) dX11_isHiding_183
  refine lv_aload_n hx hb dX11_isHiding_0 rfl (lv_at hl 0 rfl) ?_
  refine lv_iload_n hx hb dX11_isHiding_1 rfl (lv_at hl 1 rfl) ?_
  refine lv_iconst (v := 1) hx hb dX11_isHiding_2 (by decide) ?_
  refine k_Si (va_runV (As := [.int (p1), .int (1)]) (rest := []) ⟨hx, hb, hml, hown, hts⟩ (c_X11_get l E M S p1 1 (gx hp (by decide))) (cwV 2 hts gX11_isHiding_X11_get rfl rfl rfl (by decide +kernel) ⟨Nat.le_of_ble_eq_true rfl, Nat.le_of_ble_eq_true rfl⟩) (gP.V (ci := 10) (q := (RX11, TX11, 23)) (q0 := 0) hE hS hW rfl rfl) rfl rfl hl.1 rfl (lv_room (Nat.le_of_ble_eq_true rfl)) dX11_isHiding_3 ⟨Nat.le_of_ble_eq_true rfl, Nat.le_of_ble_eq_true rfl⟩) (fun r3 er3 => ?_)
  refine lv_iload_n hx hb dX11_isHiding_6 rfl (lv_at hl 2 rfl) ?_
  refine lv_isub hx hb dX11_isHiding_7 ?_
  refine lv_i2l (v := (r3 - p2).toInt64) hx hb dX11_isHiding_8 rfl ?_
  refine lv_topl (fun x9 ex9 => ?_)
  refine lv_lstore (lv' := [(4, .long (x9)), (0, .ref (eM E 0)), (1, .int (p1)), (2, .int (p2)), (3, .int (p3))]) hx hb dX11_isHiding_9 hl (by decide) rfl (fun ls hl => ?_)
  refine lv_aload_n hx hb dX11_isHiding_11 rfl (lv_at hl 1 rfl) ?_
  refine lv_iload_n hx hb dX11_isHiding_12 rfl (lv_at hl 2 rfl) ?_
  refine lv_iconst (v := 2) hx hb dX11_isHiding_13 (by decide) ?_
  refine k_Si (va_runV (As := [.int (p1), .int (2)]) (rest := []) ⟨hx, hb, hml, hown, hts⟩ (c_X11_get l E M S p1 2 (gx hp (by decide))) (cwV 2 hts gX11_isHiding_X11_get rfl rfl rfl (by decide +kernel) ⟨Nat.le_of_ble_eq_true rfl, Nat.le_of_ble_eq_true rfl⟩) (gP.V (ci := 10) (q := (RX11, TX11, 23)) (q0 := 0) hE hS hW rfl rfl) rfl rfl hl.1 rfl (lv_room (Nat.le_of_ble_eq_true rfl)) dX11_isHiding_14 ⟨Nat.le_of_ble_eq_true rfl, Nat.le_of_ble_eq_true rfl⟩) (fun r14 er14 => ?_)
  refine lv_iload_n hx hb dX11_isHiding_17 rfl (lv_at hl 4 rfl) ?_
  refine lv_isub hx hb dX11_isHiding_18 ?_
  refine lv_i2l (v := (r14 - p3).toInt64) hx hb dX11_isHiding_19 rfl ?_
  refine lv_topl (fun x20 ex20 => ?_)
  refine lv_lstore (lv' := [(6, .long (x20)), (4, .long (x9)), (0, .ref (eM E 0)), (1, .int (p1)), (2, .int (p2)), (3, .int (p3))]) hx hb dX11_isHiding_20 hl (by decide) rfl (fun ls hl => ?_)
  refine lv_aload_n hx hb dX11_isHiding_22 rfl (lv_at hl 2 rfl) ?_
  refine lv_iload_n hx hb dX11_isHiding_23 rfl (lv_at hl 3 rfl) ?_
  refine lv_iconst (v := 3) hx hb dX11_isHiding_24 (by decide) ?_
  refine k_Si (va_runV (As := [.int (p1), .int (3)]) (rest := []) ⟨hx, hb, hml, hown, hts⟩ (c_X11_get l E M S p1 3 (gx hp (by decide))) (cwV 2 hts gX11_isHiding_X11_get rfl rfl rfl (by decide +kernel) ⟨Nat.le_of_ble_eq_true rfl, Nat.le_of_ble_eq_true rfl⟩) (gP.V (ci := 10) (q := (RX11, TX11, 23)) (q0 := 0) hE hS hW rfl rfl) rfl rfl hl.1 rfl (lv_room (Nat.le_of_ble_eq_true rfl)) dX11_isHiding_25 ⟨Nat.le_of_ble_eq_true rfl, Nat.le_of_ble_eq_true rfl⟩) (fun r25 er25 => ?_)
  refine lv_iload_n hx hb dX11_isHiding_28 rfl (lv_at hl 4 rfl) ?_
  refine lv_isub hx hb dX11_isHiding_29 ?_
  refine lv_i2l (v := (r25 - p2).toInt64) hx hb dX11_isHiding_30 rfl ?_
  refine lv_topl (fun x31 ex31 => ?_)
  refine lv_lstore (lv' := [(8, .long (x31)), (6, .long (x20)), (4, .long (x9)), (0, .ref (eM E 0)), (1, .int (p1)), (2, .int (p2)), (3, .int (p3))]) hx hb dX11_isHiding_31 hl (by decide) rfl (fun ls hl => ?_)
  refine lv_aload_n hx hb dX11_isHiding_33 rfl (lv_at hl 3 rfl) ?_
  refine lv_iload_n hx hb dX11_isHiding_34 rfl (lv_at hl 4 rfl) ?_
  refine lv_iconst (v := 4) hx hb dX11_isHiding_35 (by decide) ?_
  refine k_Si (va_runV (As := [.int (p1), .int (4)]) (rest := []) ⟨hx, hb, hml, hown, hts⟩ (c_X11_get l E M S p1 4 (gx hp (by decide))) (cwV 2 hts gX11_isHiding_X11_get rfl rfl rfl (by decide +kernel) ⟨Nat.le_of_ble_eq_true rfl, Nat.le_of_ble_eq_true rfl⟩) (gP.V (ci := 10) (q := (RX11, TX11, 23)) (q0 := 0) hE hS hW rfl rfl) rfl rfl hl.1 rfl (lv_room (Nat.le_of_ble_eq_true rfl)) dX11_isHiding_36 ⟨Nat.le_of_ble_eq_true rfl, Nat.le_of_ble_eq_true rfl⟩) (fun r36 er36 => ?_)
  refine lv_iload_n hx hb dX11_isHiding_39 rfl (lv_at hl 6 rfl) ?_
  refine lv_isub hx hb dX11_isHiding_40 ?_
  refine lv_i2l (v := (r36 - p3).toInt64) hx hb dX11_isHiding_41 rfl ?_
  refine lv_topl (fun x42 ex42 => ?_)
  refine lv_lstore (lv' := [(10, .long (x42)), (8, .long (x31)), (6, .long (x20)), (4, .long (x9)), (0, .ref (eM E 0)), (1, .int (p1)), (2, .int (p2)), (3, .int (p3))]) hx hb dX11_isHiding_42 hl (by decide) rfl (fun ls hl => ?_)
  refine lv_aload_n hx hb dX11_isHiding_44 rfl (lv_at hl 4 rfl) ?_
  refine va_get (D := eD E) (cl := vwCl) (tys := eT E) (ci := 10) (C := RX11) (T := TX11) (N := 23) (v := .long (M.2 0 11)) hx hb hts hinX11 hown hE.1 hW.1 0 rfl rfl 11 (by decide) (hts (.fieldLink RX11 111 "DialGardenModel" "east" "J") (by decide +kernel)) (fun _ h9 => h9) rfl dX11_isHiding_45 ?_
  refine lv_lload hx hb dX11_isHiding_48 (lv_at hl 2 rfl) ?_
  refine lv_lmul hx hb dX11_isHiding_50 ?_
  refine lv_aload_n hx hb dX11_isHiding_51 rfl (lv_at hl 4 rfl) ?_
  refine va_get (D := eD E) (cl := vwCl) (tys := eT E) (ci := 10) (C := RX11) (T := TX11) (N := 23) (v := .long (M.2 0 12)) hx hb hts hinX11 hown hE.1 hW.1 0 rfl rfl 12 (by decide) (hts (.fieldLink RX11 115 "DialGardenModel" "north" "J") (by decide +kernel)) (fun _ h9 => h9) rfl dX11_isHiding_52 ?_
  refine lv_lload hx hb dX11_isHiding_55 (lv_at hl 3 rfl) ?_
  refine lv_lmul hx hb dX11_isHiding_57 ?_
  refine lv_lsub hx hb dX11_isHiding_58 ?_
  refine lv_topl (fun x59 ex59 => ?_)
  refine lv_lstore (lv' := [(12, .long (x59)), (10, .long (x42)), (8, .long (x31)), (6, .long (x20)), (4, .long (x9)), (0, .ref (eM E 0)), (1, .int (p1)), (2, .int (p2)), (3, .int (p3))]) hx hb dX11_isHiding_59 hl (by decide) rfl (fun ls hl => ?_)
  refine lv_aload_n hx hb dX11_isHiding_61 rfl (lv_at hl 5 rfl) ?_
  refine va_get (D := eD E) (cl := vwCl) (tys := eT E) (ci := 10) (C := RX11) (T := TX11) (N := 23) (v := .long (M.2 0 11)) hx hb hts hinX11 hown hE.1 hW.1 0 rfl rfl 11 (by decide) (hts (.fieldLink RX11 111 "DialGardenModel" "east" "J") (by decide +kernel)) (fun _ h9 => h9) rfl dX11_isHiding_62 ?_
  refine lv_lload hx hb dX11_isHiding_65 (lv_at hl 1 rfl) ?_
  refine lv_lmul hx hb dX11_isHiding_67 ?_
  refine lv_aload_n hx hb dX11_isHiding_68 rfl (lv_at hl 5 rfl) ?_
  refine va_get (D := eD E) (cl := vwCl) (tys := eT E) (ci := 10) (C := RX11) (T := TX11) (N := 23) (v := .long (M.2 0 12)) hx hb hts hinX11 hown hE.1 hW.1 0 rfl rfl 12 (by decide) (hts (.fieldLink RX11 115 "DialGardenModel" "north" "J") (by decide +kernel)) (fun _ h9 => h9) rfl dX11_isHiding_69 ?_
  refine lv_lload hx hb dX11_isHiding_72 (lv_at hl 2 rfl) ?_
  refine lv_lmul hx hb dX11_isHiding_74 ?_
  refine lv_lsub hx hb dX11_isHiding_75 ?_
  refine lv_topl (fun x76 ex76 => ?_)
  refine lv_lstore (lv' := [(14, .long (x76)), (12, .long (x59)), (10, .long (x42)), (8, .long (x31)), (6, .long (x20)), (4, .long (x9)), (0, .ref (eM E 0)), (1, .int (p1)), (2, .int (p2)), (3, .int (p3))]) hx hb dX11_isHiding_76 hl (by decide) rfl (fun ls hl => ?_)
  refine lv_lload hx hb dX11_isHiding_78 (lv_at hl 0 rfl) ?_
  refine lv_lload hx hb dX11_isHiding_80 (lv_at hl 1 rfl) ?_
  refine lv_lsub hx hb dX11_isHiding_82 ?_
  refine lv_topl (fun x83 ex83 => ?_)
  refine lv_lstore (lv' := [(16, .long (x83)), (14, .long (x76)), (12, .long (x59)), (10, .long (x42)), (8, .long (x31)), (6, .long (x20)), (4, .long (x9)), (0, .ref (eM E 0)), (1, .int (p1)), (2, .int (p2)), (3, .int (p3))]) hx hb dX11_isHiding_83 hl (by decide) rfl (fun ls hl => ?_)
  refine lv_lload hx hb dX11_isHiding_85 (lv_at hl 6 rfl) ?_
  refine lv_lload hx hb dX11_isHiding_87 (lv_at hl 3 rfl) ?_
  refine lv_lmul hx hb dX11_isHiding_89 ?_
  refine lv_lload hx hb dX11_isHiding_90 (lv_at hl 5 rfl) ?_
  refine lv_lload hx hb dX11_isHiding_92 (lv_at hl 4 rfl) ?_
  refine lv_lmul hx hb dX11_isHiding_94 ?_
  refine lv_lsub hx hb dX11_isHiding_95 ?_
  refine lv_topl (fun x96 ex96 => ?_)
  refine lv_lstore (lv' := [(18, .long (x96)), (16, .long (x83)), (14, .long (x76)), (12, .long (x59)), (10, .long (x42)), (8, .long (x31)), (6, .long (x20)), (4, .long (x9)), (0, .ref (eM E 0)), (1, .int (p1)), (2, .int (p2)), (3, .int (p3))]) hx hb dX11_isHiding_96 hl (by decide) rfl (fun ls hl => ?_)
  refine lv_lload hx hb dX11_isHiding_98 (lv_at hl 1 rfl) ?_
  refine lv_lconst (v := 0) hx hb dX11_isHiding_100 (by decide) ?_
  refine k_lge (tgt := 115) hx hb dX11_isHiding_101 dX11_isHiding_102 (by decide) (fun c101 => ?_) (fun c101 => ?_)
  · exact J115 _ _ _ _ _ (by subst ex96; subst ex83; subst ex76; subst ex59; subst ex42; subst er36; subst ex31; subst er25; subst ex20; subst er14; subst ex9; subst er3; first | (simp only [q_X11_isHiding, if_pos c101]; done) | contradiction) (lv_sub hl [8, 9, 3, 2, 1, 0] rfl)
  · refine lv_lload hx hb dX11_isHiding_105 (lv_at hl 1 rfl) ?_
    refine lv_lneg hx hb dX11_isHiding_107 ?_
    refine lv_topl (fun x108 ex108 => ?_)
    refine lv_lstore (lv' := [(16, .long (x108)), (18, .long (x96)), (14, .long (x76)), (12, .long (x59)), (10, .long (x42)), (8, .long (x31)), (6, .long (x20)), (4, .long (x9)), (0, .ref (eM E 0)), (1, .int (p1)), (2, .int (p2)), (3, .int (p3))]) hx hb dX11_isHiding_108 hl (by decide) rfl (fun ls hl => ?_)
    refine lv_lload hx hb dX11_isHiding_110 (lv_at hl 1 rfl) ?_
    refine lv_lneg hx hb dX11_isHiding_112 ?_
    refine lv_topl (fun x113 ex113 => ?_)
    refine lv_lstore (lv' := [(18, .long (x113)), (16, .long (x108)), (14, .long (x76)), (12, .long (x59)), (10, .long (x42)), (8, .long (x31)), (6, .long (x20)), (4, .long (x9)), (0, .ref (eM E 0)), (1, .int (p1)), (2, .int (p2)), (3, .int (p3))]) hx hb dX11_isHiding_113 hl (by decide) rfl (fun ls hl => ?_)
    exact J115 _ _ _ _ _ (by subst ex113; subst ex108; subst ex96; subst ex83; subst ex76; subst ex59; subst ex42; subst er36; subst ex31; subst er25; subst ex20; subst er14; subst ex9; subst er3; first | (simp only [q_X11_isHiding, if_neg c101]; done) | contradiction) (lv_sub hl [8, 9, 3, 2, 1, 0] rfl)

def q_X11_hider_b2 (M : gSm) (p1 : Int32) : Nat → Int32 → Int32
  | 0, v2 => 0
  | n + 1, v2 => (if 40 ≤ v2 then (-2000000005) else (let r11 := q_X11_get M v2 0; (if r11 = 1 then (let r23 := q_X11_get M p1 1; (let r29 := q_X11_get M p1 2; (let r32 := q_X11_isHiding M v2 r23 r29; (if r32 = 0 then (let x40 := v2 + 1; q_X11_hider_b2 M p1 n x40) else v2)))) else (let x40 := v2 + 1; q_X11_hider_b2 M p1 n x40))))
def q_X11_hider (M : gSm) (p1 : Int32) : Int32 := q_X11_hider_b2 M p1 41 0
set_option maxHeartbeats 4000000 in
set_option maxRecDepth 100000 in
theorem c_X11_hider (l : Launch) (E : gEE) (M : gSm) (S : gSc) (p1 : Int32) (hp : isP p1) : Met l yX11_hider wsX11_hider ({ frames := 2, cells := 0, slots := 0, locals := 61 }) (va_Pc [.ref (eM E 0), .int (p1)] (gP E M S)) (vp_Si (fun r => r = q_X11_hider M p1)) 0 0 (fun _ => False) := by
  refine Met.ofW (cc := cX11_hider) (maxL := 3) (ret := (some .int)) (by decide) rfl ?_
  intro p e s m args below meth c s₁ B hml hv
  obtain ⟨rfl, hE, hW⟩ := hv
  have hx := B.exec
  have hb := B.bytes
  have hr := B.returns
  have hts := atoms_spec (ws := wsX11_hider) B.pre
  have hown : s.vm.findClass RX11 = some m.cls := findClass_of_methodNamed B.named
  have hlocks := B.notSynchronized
  have hS : va_S (eA E) s.heap s.heap [] := va_S.rf
  have hl := lv_entry ([.ref (eM E 0), .int (p1)]) (n := 3) (Nat.le_of_ble_eq_true rfl)
  rw [lg_entry_eq]
  generalize (lg_sl ([.ref (eM E 0), .int (p1)]) ++ List.replicate (3 - (lg_sl ([.ref (eM E 0), .int (p1)])).length) Slot.unset).toArray = ls at hl ⊢
  have hl : lv_has ls 3 [(0, .ref (eM E 0)), (1, .int (p1))] := hl
  have L2 : ∀ n : Nat, ∀ (v2 : Int32) (ls : Array Slot), (gL 40 n v2) → q_X11_hider M p1 = q_X11_hider_b2 M p1 n v2 → lv_has ls 3 [(0, .ref (eM E 0)), (1, .int (p1)), (2, .int (v2))] → W p l e (headSpec wsX11_hider ({ frames := 2, cells := 0, slots := 0, locals := 61 })).room s m ([.ref (eM E 0), .int (p1)] : List Value).toArray below meth c s.heap [] 0 0 (MQ below (vp_Si (fun r => r = q_X11_hider M p1)) ([.ref (eM E 0), .int (p1)] : List Value).toArray s 0 0 (fun _ => False)) (F0 m 2 ls []) := by
    intro n
    induction n with
    | zero =>
      intro v2 ls hi hq hl
      exact hi.z
    | succ n ih =>
      intro v2 ls hi hq hl
      refine lv_iload_n hx hb dX11_hider_2 rfl (lv_at hl 2 rfl) ?_
      refine lv_bipush (v := 40) hx hb dX11_hider_3 (by decide) ?_
      refine lv_icmp_ge (tgt := 46) hx hb dX11_hider_5 (by decide) (fun c5 => ?_) (fun c5 => ?_)
      · refine lv_ldc hx hb (v := (-2000000005)) hown (hts (.constant RX11 172 (-2000000005)) (by decide +kernel)) dX11_hider_46 ?_
        exact W.iret (v := (-2000000005)) hx hb hr (fun t ht _ => ⟨(-2000000005), rfl, by rw [hq]; first | (simp only [q_X11_hider_b2, if_pos c5]; done) | contradiction, ht⟩) (fun _ h => nomatch h) dX11_hider_48
      · refine lv_aload_n hx hb dX11_hider_8 rfl (lv_at hl 0 rfl) ?_
        refine lv_iload_n hx hb dX11_hider_9 rfl (lv_at hl 2 rfl) ?_
        refine lv_iconst (v := 0) hx hb dX11_hider_10 (by decide) ?_
        refine k_Si (va_runV (As := [.int (v2), .int (0)]) (rest := []) ⟨hx, hb, hml, hown, hts⟩ (c_X11_get l E M S v2 0 (gx (hi.lt c5 (by decide)) (by decide))) (cwV 2 hts gX11_hider_X11_get rfl rfl rfl (by decide +kernel) ⟨Nat.le_of_ble_eq_true rfl, Nat.le_of_ble_eq_true rfl⟩) (gP.V (ci := 10) (q := (RX11, TX11, 23)) (q0 := 0) hE hS hW rfl rfl) rfl rfl hl.1 rfl (lv_room (Nat.le_of_ble_eq_true rfl)) dX11_hider_11 ⟨Nat.le_of_ble_eq_true rfl, Nat.le_of_ble_eq_true rfl⟩) (fun r11 er11 => ?_)
        refine lv_iconst (v := 1) hx hb dX11_hider_14 (by decide) ?_
        refine lv_icmp_ne (tgt := 40) hx hb dX11_hider_15 (by decide) (fun c15 => ?_) (fun c15 => ?_)
        · obtain ⟨x40, ex40⟩ : ∃ y : Int32, y = v2 + 1 := ⟨_, rfl⟩
          refine lv_iinc (v := x40) (lv' := [(2, .int (x40)), (0, .ref (eM E 0)), (1, .int (p1))]) hx hb dX11_hider_40 hl (k := 2) rfl (by rw [ex40]; rfl) (by decide) rfl (fun ls hl => ?_)
          refine lv_goto (tgt := 2) hx hb dX11_hider_43 (by decide) ?_
          exact ih _ _ (by exact hi.st c5 (by decide) ex40) (by rw [hq]; subst ex40; subst er11; first | (simp only [q_X11_hider_b2, if_neg c5, if_neg c15]; done) | contradiction) (lv_sub hl [1, 2, 0] rfl)
        · refine lv_aload_n hx hb dX11_hider_18 rfl (lv_at hl 0 rfl) ?_
          refine lv_iload_n hx hb dX11_hider_19 rfl (lv_at hl 2 rfl) ?_
          refine lv_aload_n hx hb dX11_hider_20 rfl (lv_at hl 0 rfl) ?_
          refine lv_iload_n hx hb dX11_hider_21 rfl (lv_at hl 1 rfl) ?_
          refine lv_iconst (v := 1) hx hb dX11_hider_22 (by decide) ?_
          refine k_Si (va_runV (As := [.int (p1), .int (1)]) (rest := [.int (v2), .ref (eM E 0)]) ⟨hx, hb, hml, hown, hts⟩ (c_X11_get l E M S p1 1 (gx hp (by decide))) (cwV 2 hts gX11_hider_X11_get rfl rfl rfl (by decide +kernel) ⟨Nat.le_of_ble_eq_true rfl, Nat.le_of_ble_eq_true rfl⟩) (gP.V (ci := 10) (q := (RX11, TX11, 23)) (q0 := 0) hE hS hW rfl rfl) rfl rfl hl.1 rfl (lv_room (Nat.le_of_ble_eq_true rfl)) dX11_hider_23 ⟨Nat.le_of_ble_eq_true rfl, Nat.le_of_ble_eq_true rfl⟩) (fun r23 er23 => ?_)
          refine lv_aload_n hx hb dX11_hider_26 rfl (lv_at hl 0 rfl) ?_
          refine lv_iload_n hx hb dX11_hider_27 rfl (lv_at hl 1 rfl) ?_
          refine lv_iconst (v := 2) hx hb dX11_hider_28 (by decide) ?_
          refine k_Si (va_runV (As := [.int (p1), .int (2)]) (rest := [.int (r23), .int (v2), .ref (eM E 0)]) ⟨hx, hb, hml, hown, hts⟩ (c_X11_get l E M S p1 2 (gx hp (by decide))) (cwV 2 hts gX11_hider_X11_get rfl rfl rfl (by decide +kernel) ⟨Nat.le_of_ble_eq_true rfl, Nat.le_of_ble_eq_true rfl⟩) (gP.V (ci := 10) (q := (RX11, TX11, 23)) (q0 := 0) hE hS hW rfl rfl) rfl rfl hl.1 rfl (lv_room (Nat.le_of_ble_eq_true rfl)) dX11_hider_29 ⟨Nat.le_of_ble_eq_true rfl, Nat.le_of_ble_eq_true rfl⟩) (fun r29 er29 => ?_)
          refine k_Si (va_runV (As := [.int (v2), .int (r23), .int (r29)]) (rest := []) ⟨hx, hb, hml, hown, hts⟩ (c_X11_isHiding l E M S v2 r23 r29 (hi.lt c5 (by decide))) (cwV 3 hts gX11_hider_X11_isHiding rfl rfl rfl (by decide +kernel) ⟨Nat.le_of_ble_eq_true rfl, Nat.le_of_ble_eq_true rfl⟩) (gP.V (ci := 10) (q := (RX11, TX11, 23)) (q0 := 0) hE hS hW rfl rfl) rfl rfl hl.1 rfl (lv_room (Nat.le_of_ble_eq_true rfl)) dX11_hider_32 ⟨Nat.le_of_ble_eq_true rfl, Nat.le_of_ble_eq_true rfl⟩) (fun r32 er32 => ?_)
          refine lv_if_eq (tgt := 40) hx hb dX11_hider_35 (by decide) (fun c35 => ?_) (fun c35 => ?_)
          · obtain ⟨x40, ex40⟩ : ∃ y : Int32, y = v2 + 1 := ⟨_, rfl⟩
            refine lv_iinc (v := x40) (lv' := [(2, .int (x40)), (0, .ref (eM E 0)), (1, .int (p1))]) hx hb dX11_hider_40 hl (k := 2) rfl (by rw [ex40]; rfl) (by decide) rfl (fun ls hl => ?_)
            refine lv_goto (tgt := 2) hx hb dX11_hider_43 (by decide) ?_
            exact ih _ _ (by exact hi.st c5 (by decide) ex40) (by rw [hq]; subst ex40; subst er32; subst er29; subst er23; subst er11; first | (simp only [q_X11_hider_b2, if_neg c5, if_pos c15, if_pos c35]; done) | contradiction) (lv_sub hl [1, 2, 0] rfl)
          · refine lv_iload_n hx hb dX11_hider_38 rfl (lv_at hl 2 rfl) ?_
            exact W.iret (v := v2) hx hb hr (fun t ht _ => ⟨v2, rfl, by rw [hq]; subst er32; subst er29; subst er23; subst er11; first | (simp only [q_X11_hider_b2, if_neg c5, if_pos c15, if_neg c35]; done) | contradiction, ht⟩) (fun _ h => nomatch h) dX11_hider_39
  refine lv_iconst (v := 0) hx hb dX11_hider_0 (by decide) ?_
  refine lv_istore_n (lv' := [(2, .int (0)), (0, .ref (eM E 0)), (1, .int (p1))]) hx hb dX11_hider_1 rfl hl (by decide) rfl (fun ls hl => ?_)
  exact L2 41 _ _ (by exact gL.i 40) (by first | (simp only [q_X11_hider]; done) | contradiction) (lv_sub hl [1, 2, 0] rfl)

def q_X11_findEnd (M : gSm) (p1 : Int32) (p2 : Int64) : gSm := (let r3 := q_X11_get M p1 0; (if r3 = 5 then (let r18 := q_X11_heightOf (M.2 0 13); (if (M.2 0 11) < 0 then pJ (pJ M 0 14 (2 * r18)) 0 15 1 else pJ (pJ M 0 14 (2 * r18)) 0 15 0)) else (let r48 := q_X11_sunBy M p1 p2 0; (let r57 := q_X11_get M p1 3; (let r66 := q_X11_sunBy M p1 p2 1; (let r72 := q_X11_down (((-r57).toInt64) * r66) r48; (let r82 := q_X11_get (pJ M 0 14 r72) p1 3; (let r91 := q_X11_sunBy (pJ M 0 14 r72) p1 p2 2; (let r97 := q_X11_down (((-r82).toInt64) * r91) r48; pJ (pJ M 0 14 r72) 0 15 r97)))))))))
set_option maxHeartbeats 4000000 in
set_option maxRecDepth 100000 in
theorem c_X11_findEnd (l : Launch) (E : gEE) (M : gSm) (S : gSc) (p1 : Int32) (p2 : Int64) (hp : isP p1) (hne : ¬ q_X11_get M p1 0 = 5 → ¬ q_X11_sunBy M p1 p2 0 = 0) : Met l yX11_findEnd wsX11_findEnd ({ frames := 3, cells := 0, slots := 0, locals := 83 }) (va_Pc [.ref (eM E 0), .int (p1), .long (p2)] (gP E M S)) (va_Qv (fun u : gSm => u = q_X11_findEnd M p1 p2) (fun u t => gW E u S t.heap) (eA E)) 0 0 (eA E) := by
  refine Met.ofW (cc := cX11_findEnd) (maxL := 6) (ret := none) (by decide) rfl ?_
  intro p e s m args below meth c s₁ B hml hv
  obtain ⟨rfl, hE, hW⟩ := hv
  have hx := B.exec
  have hb := B.bytes
  have hr := B.returns
  have hts := atoms_spec (ws := wsX11_findEnd) B.pre
  have hown : s.vm.findClass RX11 = some m.cls := findClass_of_methodNamed B.named
  have hlocks := B.notSynchronized
  have hinX11 : ∀ w ∈ wsX110, w ∈ wsX11_findEnd := by decide +kernel
  have hS : va_S (eA E) s.heap s.heap [] := va_S.rf
  have hl := lv_entry ([.ref (eM E 0), .int (p1), .long (p2)]) (n := 6) (Nat.le_of_ble_eq_true rfl)
  rw [lg_entry_eq]
  generalize (lg_sl ([.ref (eM E 0), .int (p1), .long (p2)]) ++ List.replicate (6 - (lg_sl ([.ref (eM E 0), .int (p1), .long (p2)])).length) Slot.unset).toArray = ls at hl ⊢
  have hl : lv_has ls 6 [(0, .ref (eM E 0)), (1, .int (p1)), (2, .long (p2))] := hl
  have hS : ∃ (H : Heap) (locs : List Loc), H = s.heap ∧ locs = [] ∧ gW E M S H ∧ va_S (eA E) s.heap H locs := ⟨_, _, rfl, rfl, hW, hS⟩
  clear hW
  obtain ⟨H, locs, eH, el, hW, hS⟩ := hS
  rw [← eH, ← el]
  clear eH el
  refine lv_aload_n hx hb dX11_findEnd_0 rfl (lv_at hl 0 rfl) ?_
  refine lv_iload_n hx hb dX11_findEnd_1 rfl (lv_at hl 1 rfl) ?_
  refine lv_iconst (v := 0) hx hb dX11_findEnd_2 (by decide) ?_
  refine k_Si (va_runV (As := [.int (p1), .int (0)]) (rest := []) ⟨hx, hb, hml, hown, hts⟩ (c_X11_get l E M S p1 0 (gx hp (by decide))) (cwV 2 hts gX11_findEnd_X11_get rfl rfl rfl (by decide +kernel) ⟨Nat.le_of_ble_eq_true rfl, Nat.le_of_ble_eq_true rfl⟩) (gP.V (ci := 10) (q := (RX11, TX11, 23)) (q0 := 0) hE hS hW rfl rfl) rfl rfl hl.1 rfl (lv_room (Nat.le_of_ble_eq_true rfl)) dX11_findEnd_3 ⟨Nat.le_of_ble_eq_true rfl, Nat.le_of_ble_eq_true rfl⟩) (fun r3 er3 => ?_)
  refine lv_iconst (v := 5) hx hb dX11_findEnd_6 (by decide) ?_
  refine lv_icmp_ne (tgt := 44) hx hb dX11_findEnd_7 (by decide) (fun c7 => ?_) (fun c7 => ?_)
  · refine lv_aload_n hx hb dX11_findEnd_44 rfl (lv_at hl 0 rfl) ?_
    refine lv_iload_n hx hb dX11_findEnd_45 rfl (lv_at hl 1 rfl) ?_
    refine lv_lload_n hx hb dX11_findEnd_46 rfl (lv_at hl 2 rfl) ?_
    refine lv_iconst (v := 0) hx hb dX11_findEnd_47 (by decide) ?_
    refine k_Sl (va_runV (As := [.int (p1), .long (p2), .int (0)]) (rest := []) ⟨hx, hb, hml, hown, hts⟩ (c_X11_sunBy l E M S p1 p2 0 hp) (cwV 3 hts gX11_findEnd_X11_sunBy rfl rfl rfl (by decide +kernel) ⟨Nat.le_of_ble_eq_true rfl, Nat.le_of_ble_eq_true rfl⟩) (gP.V (ci := 10) (q := (RX11, TX11, 23)) (q0 := 0) hE hS hW rfl rfl) rfl rfl hl.1 rfl (lv_room (Nat.le_of_ble_eq_true rfl)) dX11_findEnd_48 ⟨Nat.le_of_ble_eq_true rfl, Nat.le_of_ble_eq_true rfl⟩) (fun r48 er48 => ?_)
    refine lv_lstore (lv' := [(4, .long (r48)), (0, .ref (eM E 0)), (1, .int (p1)), (2, .long (p2))]) hx hb dX11_findEnd_51 hl (by decide) rfl (fun ls hl => ?_)
    refine lv_aload_n hx hb dX11_findEnd_53 rfl (lv_at hl 1 rfl) ?_
    refine lv_aload_n hx hb dX11_findEnd_54 rfl (lv_at hl 1 rfl) ?_
    refine lv_iload_n hx hb dX11_findEnd_55 rfl (lv_at hl 2 rfl) ?_
    refine lv_iconst (v := 3) hx hb dX11_findEnd_56 (by decide) ?_
    refine k_Si (va_runV (As := [.int (p1), .int (3)]) (rest := [.ref (eM E 0)]) ⟨hx, hb, hml, hown, hts⟩ (c_X11_get l E M S p1 3 (gx hp (by decide))) (cwV 2 hts gX11_findEnd_X11_get rfl rfl rfl (by decide +kernel) ⟨Nat.le_of_ble_eq_true rfl, Nat.le_of_ble_eq_true rfl⟩) (gP.V (ci := 10) (q := (RX11, TX11, 23)) (q0 := 0) hE hS hW rfl rfl) rfl rfl hl.1 rfl (lv_room (Nat.le_of_ble_eq_true rfl)) dX11_findEnd_57 ⟨Nat.le_of_ble_eq_true rfl, Nat.le_of_ble_eq_true rfl⟩) (fun r57 er57 => ?_)
    refine lv_ineg hx hb dX11_findEnd_60 ?_
    refine lv_i2l (v := (-r57).toInt64) hx hb dX11_findEnd_61 rfl ?_
    refine lv_aload_n hx hb dX11_findEnd_62 rfl (lv_at hl 1 rfl) ?_
    refine lv_iload_n hx hb dX11_findEnd_63 rfl (lv_at hl 2 rfl) ?_
    refine lv_lload_n hx hb dX11_findEnd_64 rfl (lv_at hl 3 rfl) ?_
    refine lv_iconst (v := 1) hx hb dX11_findEnd_65 (by decide) ?_
    refine k_Sl (va_runV (As := [.int (p1), .long (p2), .int (1)]) (rest := [.long ((-r57).toInt64), .ref (eM E 0)]) ⟨hx, hb, hml, hown, hts⟩ (c_X11_sunBy l E M S p1 p2 1 hp) (cwV 3 hts gX11_findEnd_X11_sunBy rfl rfl rfl (by decide +kernel) ⟨Nat.le_of_ble_eq_true rfl, Nat.le_of_ble_eq_true rfl⟩) (gP.V (ci := 10) (q := (RX11, TX11, 23)) (q0 := 0) hE hS hW rfl rfl) rfl rfl hl.1 rfl (lv_room (Nat.le_of_ble_eq_true rfl)) dX11_findEnd_66 ⟨Nat.le_of_ble_eq_true rfl, Nat.le_of_ble_eq_true rfl⟩) (fun r66 er66 => ?_)
    refine lv_lmul hx hb dX11_findEnd_69 ?_
    refine lv_lload hx hb dX11_findEnd_70 (lv_at hl 0 rfl) ?_
    refine k_Sl (va_runS (As := [.long (((-r57).toInt64) * r66), .long (r48)]) (rest := [.ref (eM E 0)]) ⟨hx, hb, hml, hown, hts⟩ (c_X11_down l (((-r57).toInt64) * r66) r48 (by rw [er48]; exact hne (by rw [← er3]; exact c7))) (va_cwS 2 hts gX11_findEnd_X11_down rfl rfl rfl (by decide +kernel) ⟨Nat.le_of_ble_eq_true rfl, Nat.le_of_ble_eq_true rfl⟩) gP0 rfl rfl hl.1 rfl (lv_room (Nat.le_of_ble_eq_true rfl)) dX11_findEnd_72 ⟨Nat.le_of_ble_eq_true rfl, Nat.le_of_ble_eq_true rfl⟩) (fun r72 er72 => ?_)
    refine va_put (D := eD E) (cl := vwCl) (tys := eT E) (A := eA E) (ci := 10) (C := RX11) (T := TX11) (N := 23) (v := .long (r72)) (ty := .long) hx hb hts hinX11 tyX11 tyX11_ok nmX11 hown hE.1 hW.1 hW.2 hS 0 rfl rfl 14 (by decide) (hts (.fieldLink RX11 189 "DialGardenModel" "endX" "J") (by decide +kernel)) (fun _ h9 => h9) rfl (by decide +kernel) rfl rfl (Nat.le_of_ble_eq_true rfl) dX11_findEnd_75 (fun H locs hP hD hS => ?_)
    have hW : gW E (pJ M 0 14 r72) S H := gW.of (uM_0_14 E M S r72) hP hD
    refine lv_aload_n hx hb dX11_findEnd_78 rfl (lv_at hl 1 rfl) ?_
    refine lv_aload_n hx hb dX11_findEnd_79 rfl (lv_at hl 1 rfl) ?_
    refine lv_iload_n hx hb dX11_findEnd_80 rfl (lv_at hl 2 rfl) ?_
    refine lv_iconst (v := 3) hx hb dX11_findEnd_81 (by decide) ?_
    refine k_Si (va_runV (As := [.int (p1), .int (3)]) (rest := [.ref (eM E 0)]) ⟨hx, hb, hml, hown, hts⟩ (c_X11_get l E (pJ M 0 14 r72) S p1 3 (gx hp (by decide))) (cwV 2 hts gX11_findEnd_X11_get rfl rfl rfl (by decide +kernel) ⟨Nat.le_of_ble_eq_true rfl, Nat.le_of_ble_eq_true rfl⟩) (gP.V (ci := 10) (q := (RX11, TX11, 23)) (q0 := 0) hE hS hW rfl rfl) rfl rfl hl.1 rfl (lv_room (Nat.le_of_ble_eq_true rfl)) dX11_findEnd_82 ⟨Nat.le_of_ble_eq_true rfl, Nat.le_of_ble_eq_true rfl⟩) (fun r82 er82 => ?_)
    refine lv_ineg hx hb dX11_findEnd_85 ?_
    refine lv_i2l (v := (-r82).toInt64) hx hb dX11_findEnd_86 rfl ?_
    refine lv_aload_n hx hb dX11_findEnd_87 rfl (lv_at hl 1 rfl) ?_
    refine lv_iload_n hx hb dX11_findEnd_88 rfl (lv_at hl 2 rfl) ?_
    refine lv_lload_n hx hb dX11_findEnd_89 rfl (lv_at hl 3 rfl) ?_
    refine lv_iconst (v := 2) hx hb dX11_findEnd_90 (by decide) ?_
    refine k_Sl (va_runV (As := [.int (p1), .long (p2), .int (2)]) (rest := [.long ((-r82).toInt64), .ref (eM E 0)]) ⟨hx, hb, hml, hown, hts⟩ (c_X11_sunBy l E (pJ M 0 14 r72) S p1 p2 2 hp) (cwV 3 hts gX11_findEnd_X11_sunBy rfl rfl rfl (by decide +kernel) ⟨Nat.le_of_ble_eq_true rfl, Nat.le_of_ble_eq_true rfl⟩) (gP.V (ci := 10) (q := (RX11, TX11, 23)) (q0 := 0) hE hS hW rfl rfl) rfl rfl hl.1 rfl (lv_room (Nat.le_of_ble_eq_true rfl)) dX11_findEnd_91 ⟨Nat.le_of_ble_eq_true rfl, Nat.le_of_ble_eq_true rfl⟩) (fun r91 er91 => ?_)
    refine lv_lmul hx hb dX11_findEnd_94 ?_
    refine lv_lload hx hb dX11_findEnd_95 (lv_at hl 0 rfl) ?_
    refine k_Sl (va_runS (As := [.long (((-r82).toInt64) * r91), .long (r48)]) (rest := [.ref (eM E 0)]) ⟨hx, hb, hml, hown, hts⟩ (c_X11_down l (((-r82).toInt64) * r91) r48 (by rw [er48]; exact hne (by rw [← er3]; exact c7))) (va_cwS 2 hts gX11_findEnd_X11_down rfl rfl rfl (by decide +kernel) ⟨Nat.le_of_ble_eq_true rfl, Nat.le_of_ble_eq_true rfl⟩) gP0 rfl rfl hl.1 rfl (lv_room (Nat.le_of_ble_eq_true rfl)) dX11_findEnd_97 ⟨Nat.le_of_ble_eq_true rfl, Nat.le_of_ble_eq_true rfl⟩) (fun r97 er97 => ?_)
    refine va_put (D := eD E) (cl := vwCl) (tys := eT E) (A := eA E) (ci := 10) (C := RX11) (T := TX11) (N := 23) (v := .long (r97)) (ty := .long) hx hb hts hinX11 tyX11 tyX11_ok nmX11 hown hE.1 hW.1 hW.2 hS 0 rfl rfl 15 (by decide) (hts (.fieldLink RX11 192 "DialGardenModel" "endY" "J") (by decide +kernel)) (fun _ h9 => h9) rfl (by decide +kernel) rfl rfl (Nat.le_of_ble_eq_true rfl) dX11_findEnd_100 (fun H locs hP hD hS => ?_)
    have hW : gW E (pJ (pJ M 0 14 r72) 0 15 r97) S H := gW.of (uM_0_15 E (pJ M 0 14 r72) S r97) hP hD
    exact W.vret hx hb hr (fun t ht _ => ⟨⟨pJ (pJ M 0 14 r72) 0 15 r97, rfl, by subst er97; subst er91; subst er82; subst er72; subst er66; subst er57; subst er48; subst er3; first | (simp only [q_X11_findEnd, if_neg c7]; done) | contradiction, by dsimp only; rw [ht]; exact hW⟩, hS.F ht⟩) hS.2.2 dX11_findEnd_103
  · refine lv_aload_n hx hb dX11_findEnd_10 rfl (lv_at hl 0 rfl) ?_
    refine lv_ldc2 hx hb (v := 2) hown (hts (.constantLong RX11 184 (2)) (by decide +kernel)) dX11_findEnd_11 ?_
    refine lv_aload_n hx hb dX11_findEnd_14 rfl (lv_at hl 0 rfl) ?_
    refine va_get (D := eD E) (cl := vwCl) (tys := eT E) (ci := 10) (C := RX11) (T := TX11) (N := 23) (v := .long (M.2 0 13)) hx hb hts hinX11 hown hE.1 hW.1 0 rfl rfl 13 (by decide) (hts (.fieldLink RX11 118 "DialGardenModel" "up" "J") (by decide +kernel)) (fun _ h9 => h9) rfl dX11_findEnd_15 ?_
    refine k_Sl (va_runS (As := [.long (M.2 0 13)]) (rest := [.long (2), .ref (eM E 0)]) ⟨hx, hb, hml, hown, hts⟩ (c_X11_heightOf l (M.2 0 13)) (va_cwS 1 hts gX11_findEnd_X11_heightOf rfl rfl rfl (by decide +kernel) ⟨Nat.le_of_ble_eq_true rfl, Nat.le_of_ble_eq_true rfl⟩) gP0 rfl rfl hl.1 rfl (lv_room (Nat.le_of_ble_eq_true rfl)) dX11_findEnd_18 ⟨Nat.le_of_ble_eq_true rfl, Nat.le_of_ble_eq_true rfl⟩) (fun r18 er18 => ?_)
    refine lv_lmul hx hb dX11_findEnd_21 ?_
    refine va_put (D := eD E) (cl := vwCl) (tys := eT E) (A := eA E) (ci := 10) (C := RX11) (T := TX11) (N := 23) (v := .long (2 * r18)) (ty := .long) hx hb hts hinX11 tyX11 tyX11_ok nmX11 hown hE.1 hW.1 hW.2 hS 0 rfl rfl 14 (by decide) (hts (.fieldLink RX11 189 "DialGardenModel" "endX" "J") (by decide +kernel)) (fun _ h9 => h9) rfl (by decide +kernel) rfl rfl (Nat.le_of_ble_eq_true rfl) dX11_findEnd_22 (fun H locs hP hD hS => ?_)
    have hW : gW E (pJ M 0 14 (2 * r18)) S H := gW.of (uM_0_14 E M S (2 * r18)) hP hD
    refine lv_aload_n hx hb dX11_findEnd_25 rfl (lv_at hl 0 rfl) ?_
    refine lv_aload_n hx hb dX11_findEnd_26 rfl (lv_at hl 0 rfl) ?_
    refine va_get (D := eD E) (cl := vwCl) (tys := eT E) (ci := 10) (C := RX11) (T := TX11) (N := 23) (v := .long (M.2 0 11)) hx hb hts hinX11 hown hE.1 hW.1 0 rfl rfl 11 (by decide) (hts (.fieldLink RX11 111 "DialGardenModel" "east" "J") (by decide +kernel)) (fun _ h9 => h9) rfl dX11_findEnd_27 ?_
    refine lv_lconst (v := 0) hx hb dX11_findEnd_30 (by decide) ?_
    refine k_llt (tgt := 39) hx hb dX11_findEnd_31 dX11_findEnd_32 (by decide) (fun c31 => ?_) (fun c31 => ?_)
    · refine lv_lconst (v := 1) hx hb dX11_findEnd_39 (by decide) ?_
      refine va_put (D := eD E) (cl := vwCl) (tys := eT E) (A := eA E) (ci := 10) (C := RX11) (T := TX11) (N := 23) (v := .long (1)) (ty := .long) hx hb hts hinX11 tyX11 tyX11_ok nmX11 hown hE.1 hW.1 hW.2 hS 0 rfl rfl 15 (by decide) (hts (.fieldLink RX11 192 "DialGardenModel" "endY" "J") (by decide +kernel)) (fun _ h9 => h9) rfl (by decide +kernel) rfl rfl (Nat.le_of_ble_eq_true rfl) dX11_findEnd_40 (fun H locs hP hD hS => ?_)
      have hW : gW E (pJ (pJ M 0 14 (2 * r18)) 0 15 1) S H := gW.of (uM_0_15 E (pJ M 0 14 (2 * r18)) S 1) hP hD
      exact W.vret hx hb hr (fun t ht _ => ⟨⟨pJ (pJ M 0 14 (2 * r18)) 0 15 1, rfl, by subst er18; subst er3; first | (simp only [q_X11_findEnd, if_pos c7, if_pos c31]; done) | contradiction, by dsimp only; rw [ht]; exact hW⟩, hS.F ht⟩) hS.2.2 dX11_findEnd_43
    · refine lv_lconst (v := 0) hx hb dX11_findEnd_35 (by decide) ?_
      refine lv_goto (tgt := 40) hx hb dX11_findEnd_36 (by decide) ?_
      refine va_put (D := eD E) (cl := vwCl) (tys := eT E) (A := eA E) (ci := 10) (C := RX11) (T := TX11) (N := 23) (v := .long (0)) (ty := .long) hx hb hts hinX11 tyX11 tyX11_ok nmX11 hown hE.1 hW.1 hW.2 hS 0 rfl rfl 15 (by decide) (hts (.fieldLink RX11 192 "DialGardenModel" "endY" "J") (by decide +kernel)) (fun _ h9 => h9) rfl (by decide +kernel) rfl rfl (Nat.le_of_ble_eq_true rfl) dX11_findEnd_40 (fun H locs hP hD hS => ?_)
      have hW : gW E (pJ (pJ M 0 14 (2 * r18)) 0 15 0) S H := gW.of (uM_0_15 E (pJ M 0 14 (2 * r18)) S 0) hP hD
      exact W.vret hx hb hr (fun t ht _ => ⟨⟨pJ (pJ M 0 14 (2 * r18)) 0 15 0, rfl, by subst er18; subst er3; first | (simp only [q_X11_findEnd, if_pos c7, if_neg c31]; done) | contradiction, by dsimp only; rw [ht]; exact hW⟩, hS.F ht⟩) hS.2.2 dX11_findEnd_43

def q_X11_stateOf (M : gSm) (p1 : Int32) (p2 : Int64) (p3 : Int32) (p4 : Int32) : Int32 × gSm := (let M5 := q_X11_look M p3 p4; (if 0 < (M5.2 0 13) then (let r23 := q_X11_sunBy M5 p1 p2 0; (if 0 < r23 then (let r35 := q_X11_hider M5 p1; (if r35 = (-2000000005) then (let M48 := q_X11_findEnd M5 p1 p2; (let r61 := q_X11_isIn (M48.2 0 14) (-1000000) 1000000; (if r61 = 0 then (4, M48) else (let r77 := q_X11_isIn (M48.2 0 15) (-1000000) 1000000; (if r77 = 0 then (4, M48) else (0, M48)))))) else (3, M5))) else (2, M5))) else (1, M5)))
set_option maxHeartbeats 4000000 in
set_option maxRecDepth 100000 in
theorem c_X11_stateOf (l : Launch) (E : gEE) (M : gSm) (S : gSc) (p1 : Int32) (p2 : Int64) (p3 : Int32) (p4 : Int32) (hp : isP p1) (hd : 0 ≤ p3.toInt) (hc : (M.1 0 6).toInt ≤ 366) : Met l yX11_stateOf wsX11_stateOf ({ frames := 4, cells := 0, slots := 0, locals := 108 }) (va_Pc [.ref (eM E 0), .int (p1), .long (p2), .int (p3), .int (p4)] (gP E M S)) (va_Qi (fun r (u : gSm) => (r, u) = q_X11_stateOf M p1 p2 p3 p4) (fun u t => gW E u S t.heap) (eA E)) 0 0 (eA E) := by
  refine Met.ofW (cc := cX11_stateOf) (maxL := 6) (ret := (some .int)) (by decide) rfl ?_
  intro p e s m args below meth c s₁ B hml hv
  obtain ⟨rfl, hE, hW⟩ := hv
  have hx := B.exec
  have hb := B.bytes
  have hr := B.returns
  have hts := atoms_spec (ws := wsX11_stateOf) B.pre
  have hown : s.vm.findClass RX11 = some m.cls := findClass_of_methodNamed B.named
  have hlocks := B.notSynchronized
  have hinX11 : ∀ w ∈ wsX110, w ∈ wsX11_stateOf := by decide +kernel
  have hS : va_S (eA E) s.heap s.heap [] := va_S.rf
  have hl := lv_entry ([.ref (eM E 0), .int (p1), .long (p2), .int (p3), .int (p4)]) (n := 6) (Nat.le_of_ble_eq_true rfl)
  rw [lg_entry_eq]
  generalize (lg_sl ([.ref (eM E 0), .int (p1), .long (p2), .int (p3), .int (p4)]) ++ List.replicate (6 - (lg_sl ([.ref (eM E 0), .int (p1), .long (p2), .int (p3), .int (p4)])).length) Slot.unset).toArray = ls at hl ⊢
  have hl : lv_has ls 6 [(0, .ref (eM E 0)), (1, .int (p1)), (2, .long (p2)), (4, .int (p3)), (5, .int (p4))] := hl
  have hS : ∃ (H : Heap) (locs : List Loc), H = s.heap ∧ locs = [] ∧ gW E M S H ∧ va_S (eA E) s.heap H locs := ⟨_, _, rfl, rfl, hW, hS⟩
  clear hW
  obtain ⟨H, locs, eH, el, hW, hS⟩ := hS
  rw [← eH, ← el]
  clear eH el
  refine lv_aload_n hx hb dX11_stateOf_0 rfl (lv_at hl 0 rfl) ?_
  refine lv_iload hx hb dX11_stateOf_1 (lv_at hl 3 rfl) ?_
  refine lv_iload hx hb dX11_stateOf_3 (lv_at hl 4 rfl) ?_
  refine va_callv (va_runV (As := [.int (p3), .int (p4)]) (rest := []) ⟨hx, hb, hml, hown, hts⟩ (c_X11_look l E M S p3 p4 hd hc) (cwV 2 hts gX11_stateOf_X11_look rfl rfl rfl (by decide +kernel) ⟨Nat.le_of_ble_eq_true rfl, Nat.le_of_ble_eq_true rfl⟩) (gP.V (ci := 10) (q := (RX11, TX11, 23)) (q0 := 0) hE hS hW rfl rfl) rfl rfl hl.1 rfl (lv_room (Nat.le_of_ble_eq_true rfl)) dX11_stateOf_5 ⟨Nat.le_of_ble_eq_true rfl, Nat.le_of_ble_eq_true rfl⟩) hS (fun _ _ h => h) (fun _ h => h) (fun M5 t H locs ht hvm hw hB hz1 hk1 hS => ?_)
  have eM5 : M5 = q_X11_look M p3 p4 := hw
  clear hw
  have hW : gW E M5 S H := by rw [← ht]; exact hB
  refine lv_aload_n hx hb dX11_stateOf_8 rfl (lv_at hl 0 rfl) ?_
  refine va_get (D := eD E) (cl := vwCl) (tys := eT E) (ci := 10) (C := RX11) (T := TX11) (N := 23) (v := .long (M5.2 0 13)) hx hb hts hinX11 hown hE.1 hW.1 0 rfl rfl 13 (by decide) (hts (.fieldLink RX11 118 "DialGardenModel" "up" "J") (by decide +kernel)) (fun _ h9 => h9) rfl dX11_stateOf_9 ?_
  refine lv_lconst (v := 0) hx hb dX11_stateOf_12 (by decide) ?_
  refine k_lgt (tgt := 19) hx hb dX11_stateOf_13 dX11_stateOf_14 (by decide) (fun c13 => ?_) (fun c13 => ?_)
  · refine lv_aload_n hx hb dX11_stateOf_19 rfl (lv_at hl 0 rfl) ?_
    refine lv_iload_n hx hb dX11_stateOf_20 rfl (lv_at hl 1 rfl) ?_
    refine lv_lload_n hx hb dX11_stateOf_21 rfl (lv_at hl 2 rfl) ?_
    refine lv_iconst (v := 0) hx hb dX11_stateOf_22 (by decide) ?_
    refine k_Sl (va_runV (As := [.int (p1), .long (p2), .int (0)]) (rest := []) ⟨hx, hb, hml, hown, hts⟩ (c_X11_sunBy l E M5 S p1 p2 0 hp) (cwV 3 hts gX11_stateOf_X11_sunBy rfl rfl rfl (by decide +kernel) ⟨Nat.le_of_ble_eq_true rfl, Nat.le_of_ble_eq_true rfl⟩) (gP.V (ci := 10) (q := (RX11, TX11, 23)) (q0 := 0) hE hS hW rfl rfl) rfl rfl hl.1 rfl (lv_room (Nat.le_of_ble_eq_true rfl)) dX11_stateOf_23 ⟨Nat.le_of_ble_eq_true rfl, Nat.le_of_ble_eq_true rfl⟩) (fun r23 er23 => ?_)
    refine lv_lconst (v := 0) hx hb dX11_stateOf_26 (by decide) ?_
    refine k_lgt (tgt := 33) hx hb dX11_stateOf_27 dX11_stateOf_28 (by decide) (fun c27 => ?_) (fun c27 => ?_)
    · refine lv_aload_n hx hb dX11_stateOf_33 rfl (lv_at hl 0 rfl) ?_
      refine lv_iload_n hx hb dX11_stateOf_34 rfl (lv_at hl 1 rfl) ?_
      refine k_Si (va_runV (As := [.int (p1)]) (rest := []) ⟨hx, hb, hml, hown, hts⟩ (c_X11_hider l E M5 S p1 hp) (cwV 1 hts gX11_stateOf_X11_hider rfl rfl rfl (by decide +kernel) ⟨Nat.le_of_ble_eq_true rfl, Nat.le_of_ble_eq_true rfl⟩) (gP.V (ci := 10) (q := (RX11, TX11, 23)) (q0 := 0) hE hS hW rfl rfl) rfl rfl hl.1 rfl (lv_room (Nat.le_of_ble_eq_true rfl)) dX11_stateOf_35 ⟨Nat.le_of_ble_eq_true rfl, Nat.le_of_ble_eq_true rfl⟩) (fun r35 er35 => ?_)
      refine lv_ldc hx hb (v := (-2000000005)) hown (hts (.constant RX11 172 (-2000000005)) (by decide +kernel)) dX11_stateOf_38 ?_
      refine lv_icmp_eq (tgt := 45) hx hb dX11_stateOf_40 (by decide) (fun c40 => ?_) (fun c40 => ?_)
      · refine lv_aload_n hx hb dX11_stateOf_45 rfl (lv_at hl 0 rfl) ?_
        refine lv_iload_n hx hb dX11_stateOf_46 rfl (lv_at hl 1 rfl) ?_
        refine lv_lload_n hx hb dX11_stateOf_47 rfl (lv_at hl 2 rfl) ?_
        refine va_callv (va_runV (As := [.int (p1), .long (p2)]) (rest := []) ⟨hx, hb, hml, hown, hts⟩ (c_X11_findEnd l E M5 S p1 p2 hp (fun _ h => l_pos_ne c27 (er23.trans h))) (cwV 2 hts gX11_stateOf_X11_findEnd rfl rfl rfl (by decide +kernel) ⟨Nat.le_of_ble_eq_true rfl, Nat.le_of_ble_eq_true rfl⟩) (gP.V (ci := 10) (q := (RX11, TX11, 23)) (q0 := 0) hE hS hW rfl rfl) rfl rfl hl.1 rfl (lv_room (Nat.le_of_ble_eq_true rfl)) dX11_stateOf_48 ⟨Nat.le_of_ble_eq_true rfl, Nat.le_of_ble_eq_true rfl⟩) hS (fun _ _ h => h) (fun _ h => h) (fun M48 t H locs ht hvm hw hB hz1 hk1 hS => ?_)
        have eM48 : M48 = q_X11_findEnd M5 p1 p2 := hw
        clear hw
        have hW : gW E M48 S H := by rw [← ht]; exact hB
        refine lv_aload_n hx hb dX11_stateOf_51 rfl (lv_at hl 0 rfl) ?_
        refine va_get (D := eD E) (cl := vwCl) (tys := eT E) (ci := 10) (C := RX11) (T := TX11) (N := 23) (v := .long (M48.2 0 14)) hx hb hts hinX11 hown hE.1 hW.1 0 rfl rfl 14 (by decide) (hts (.fieldLink RX11 189 "DialGardenModel" "endX" "J") (by decide +kernel)) (fun _ h9 => h9) rfl dX11_stateOf_52 ?_
        refine lv_ldc2 hx hb (v := (-1000000)) hown (hts (.constantLong RX11 206 (-1000000)) (by decide +kernel)) dX11_stateOf_55 ?_
        refine lv_ldc2 hx hb (v := 1000000) hown (hts (.constantLong RX11 208 (1000000)) (by decide +kernel)) dX11_stateOf_58 ?_
        refine k_Si (va_runS (As := [.long (M48.2 0 14), .long ((-1000000)), .long (1000000)]) (rest := []) ⟨hx, hb, hml, hown, hts⟩ (c_X11_isIn l (M48.2 0 14) (-1000000) 1000000) (va_cwS 3 hts gX11_stateOf_X11_isIn rfl rfl rfl (by decide +kernel) ⟨Nat.le_of_ble_eq_true rfl, Nat.le_of_ble_eq_true rfl⟩) gP0 rfl rfl hl.1 rfl (lv_room (Nat.le_of_ble_eq_true rfl)) dX11_stateOf_61 ⟨Nat.le_of_ble_eq_true rfl, Nat.le_of_ble_eq_true rfl⟩) (fun r61 er61 => ?_)
        refine lv_if_eq (tgt := 87) hx hb dX11_stateOf_64 (by decide) (fun c64 => ?_) (fun c64 => ?_)
        · refine lv_iconst (v := 4) hx hb dX11_stateOf_87 (by decide) ?_
          exact W.iret (v := 4) hx hb hr (fun t ht _ => ⟨⟨4, M48, rfl, by subst er61; subst eM48; subst er35; subst er23; subst eM5; first | (simp only [q_X11_stateOf, if_pos c13, if_pos c27, if_pos c40, if_pos c64]; done) | contradiction, by dsimp only; rw [ht]; exact hW⟩, hS.F ht⟩) hS.2.2 dX11_stateOf_88
        · refine lv_aload_n hx hb dX11_stateOf_67 rfl (lv_at hl 0 rfl) ?_
          refine va_get (D := eD E) (cl := vwCl) (tys := eT E) (ci := 10) (C := RX11) (T := TX11) (N := 23) (v := .long (M48.2 0 15)) hx hb hts hinX11 hown hE.1 hW.1 0 rfl rfl 15 (by decide) (hts (.fieldLink RX11 192 "DialGardenModel" "endY" "J") (by decide +kernel)) (fun _ h9 => h9) rfl dX11_stateOf_68 ?_
          refine lv_ldc2 hx hb (v := (-1000000)) hown (hts (.constantLong RX11 206 (-1000000)) (by decide +kernel)) dX11_stateOf_71 ?_
          refine lv_ldc2 hx hb (v := 1000000) hown (hts (.constantLong RX11 208 (1000000)) (by decide +kernel)) dX11_stateOf_74 ?_
          refine k_Si (va_runS (As := [.long (M48.2 0 15), .long ((-1000000)), .long (1000000)]) (rest := []) ⟨hx, hb, hml, hown, hts⟩ (c_X11_isIn l (M48.2 0 15) (-1000000) 1000000) (va_cwS 3 hts gX11_stateOf_X11_isIn rfl rfl rfl (by decide +kernel) ⟨Nat.le_of_ble_eq_true rfl, Nat.le_of_ble_eq_true rfl⟩) gP0 rfl rfl hl.1 rfl (lv_room (Nat.le_of_ble_eq_true rfl)) dX11_stateOf_77 ⟨Nat.le_of_ble_eq_true rfl, Nat.le_of_ble_eq_true rfl⟩) (fun r77 er77 => ?_)
          refine lv_if_eq (tgt := 87) hx hb dX11_stateOf_80 (by decide) (fun c80 => ?_) (fun c80 => ?_)
          · refine lv_iconst (v := 4) hx hb dX11_stateOf_87 (by decide) ?_
            exact W.iret (v := 4) hx hb hr (fun t ht _ => ⟨⟨4, M48, rfl, by subst er77; subst er61; subst eM48; subst er35; subst er23; subst eM5; first | (simp only [q_X11_stateOf, if_pos c13, if_pos c27, if_pos c40, if_neg c64, if_pos c80]; done) | contradiction, by dsimp only; rw [ht]; exact hW⟩, hS.F ht⟩) hS.2.2 dX11_stateOf_88
          · refine lv_iconst (v := 0) hx hb dX11_stateOf_83 (by decide) ?_
            refine lv_goto (tgt := 88) hx hb dX11_stateOf_84 (by decide) ?_
            exact W.iret (v := 0) hx hb hr (fun t ht _ => ⟨⟨0, M48, rfl, by subst er77; subst er61; subst eM48; subst er35; subst er23; subst eM5; first | (simp only [q_X11_stateOf, if_pos c13, if_pos c27, if_pos c40, if_neg c64, if_neg c80]; done) | contradiction, by dsimp only; rw [ht]; exact hW⟩, hS.F ht⟩) hS.2.2 dX11_stateOf_88
      · refine lv_iconst (v := 3) hx hb dX11_stateOf_43 (by decide) ?_
        exact W.iret (v := 3) hx hb hr (fun t ht _ => ⟨⟨3, M5, rfl, by subst er35; subst er23; subst eM5; first | (simp only [q_X11_stateOf, if_pos c13, if_pos c27, if_neg c40]; done) | contradiction, by dsimp only; rw [ht]; exact hW⟩, hS.F ht⟩) hS.2.2 dX11_stateOf_44
    · refine lv_iconst (v := 2) hx hb dX11_stateOf_31 (by decide) ?_
      exact W.iret (v := 2) hx hb hr (fun t ht _ => ⟨⟨2, M5, rfl, by subst er23; subst eM5; first | (simp only [q_X11_stateOf, if_pos c13, if_neg c27]; done) | contradiction, by dsimp only; rw [ht]; exact hW⟩, hS.F ht⟩) hS.2.2 dX11_stateOf_32
  · refine lv_iconst (v := 1) hx hb dX11_stateOf_17 (by decide) ?_
    exact W.iret (v := 1) hx hb hr (fun t ht _ => ⟨⟨1, M5, rfl, by subst eM5; first | (simp only [q_X11_stateOf, if_neg c13]; done) | contradiction, by dsimp only; rw [ht]; exact hW⟩, hS.F ht⟩) hS.2.2 dX11_stateOf_18

def q_X11_stateNow (M : gSm) (p1 : Int32) (p2 : Int32) (p3 : Int32) : Int32 × gSm := (let r5 := q_X11_get M p1 4; (let r11 := (q_X11_stateOf M p1 (r5.toInt64) p2 p3).1; let M11 := (q_X11_stateOf M p1 (r5.toInt64) p2 p3).2; (r11, M11)))
set_option maxHeartbeats 4000000 in
set_option maxRecDepth 100000 in
theorem c_X11_stateNow (l : Launch) (E : gEE) (M : gSm) (S : gSc) (p1 : Int32) (p2 : Int32) (p3 : Int32) (hp : isP p1) (hd : 0 ≤ p2.toInt) (hc : (M.1 0 6).toInt ≤ 366) : Met l yX11_stateNow wsX11_stateNow ({ frames := 5, cells := 0, slots := 0, locals := 133 }) (va_Pc [.ref (eM E 0), .int (p1), .int (p2), .int (p3)] (gP E M S)) (va_Qi (fun r (u : gSm) => (r, u) = q_X11_stateNow M p1 p2 p3) (fun u t => gW E u S t.heap) (eA E)) 0 0 (eA E) := by
  refine Met.ofW (cc := cX11_stateNow) (maxL := 4) (ret := (some .int)) (by decide) rfl ?_
  intro p e s m args below meth c s₁ B hml hv
  obtain ⟨rfl, hE, hW⟩ := hv
  have hx := B.exec
  have hb := B.bytes
  have hr := B.returns
  have hts := atoms_spec (ws := wsX11_stateNow) B.pre
  have hown : s.vm.findClass RX11 = some m.cls := findClass_of_methodNamed B.named
  have hlocks := B.notSynchronized
  have hS : va_S (eA E) s.heap s.heap [] := va_S.rf
  have hl := lv_entry ([.ref (eM E 0), .int (p1), .int (p2), .int (p3)]) (n := 4) (Nat.le_of_ble_eq_true rfl)
  rw [lg_entry_eq]
  generalize (lg_sl ([.ref (eM E 0), .int (p1), .int (p2), .int (p3)]) ++ List.replicate (4 - (lg_sl ([.ref (eM E 0), .int (p1), .int (p2), .int (p3)])).length) Slot.unset).toArray = ls at hl ⊢
  have hl : lv_has ls 4 [(0, .ref (eM E 0)), (1, .int (p1)), (2, .int (p2)), (3, .int (p3))] := hl
  have hS : ∃ (H : Heap) (locs : List Loc), H = s.heap ∧ locs = [] ∧ gW E M S H ∧ va_S (eA E) s.heap H locs := ⟨_, _, rfl, rfl, hW, hS⟩
  clear hW
  obtain ⟨H, locs, eH, el, hW, hS⟩ := hS
  rw [← eH, ← el]
  clear eH el
  refine lv_aload_n hx hb dX11_stateNow_0 rfl (lv_at hl 0 rfl) ?_
  refine lv_iload_n hx hb dX11_stateNow_1 rfl (lv_at hl 1 rfl) ?_
  refine lv_aload_n hx hb dX11_stateNow_2 rfl (lv_at hl 0 rfl) ?_
  refine lv_iload_n hx hb dX11_stateNow_3 rfl (lv_at hl 1 rfl) ?_
  refine lv_iconst (v := 4) hx hb dX11_stateNow_4 (by decide) ?_
  refine k_Si (va_runV (As := [.int (p1), .int (4)]) (rest := [.int (p1), .ref (eM E 0)]) ⟨hx, hb, hml, hown, hts⟩ (c_X11_get l E M S p1 4 (gx hp (by decide))) (cwV 2 hts gX11_stateNow_X11_get rfl rfl rfl (by decide +kernel) ⟨Nat.le_of_ble_eq_true rfl, Nat.le_of_ble_eq_true rfl⟩) (gP.V (ci := 10) (q := (RX11, TX11, 23)) (q0 := 0) hE hS hW rfl rfl) rfl rfl hl.1 rfl (lv_room (Nat.le_of_ble_eq_true rfl)) dX11_stateNow_5 ⟨Nat.le_of_ble_eq_true rfl, Nat.le_of_ble_eq_true rfl⟩) (fun r5 er5 => ?_)
  refine lv_i2l (v := r5.toInt64) hx hb dX11_stateNow_8 rfl ?_
  refine lv_iload_n hx hb dX11_stateNow_9 rfl (lv_at hl 2 rfl) ?_
  refine lv_iload_n hx hb dX11_stateNow_10 rfl (lv_at hl 3 rfl) ?_
  refine va_calli (va_runV (As := [.int (p1), .long (r5.toInt64), .int (p2), .int (p3)]) (rest := []) ⟨hx, hb, hml, hown, hts⟩ (c_X11_stateOf l E M S p1 (r5.toInt64) p2 p3 hp hd hc) (cwV 4 hts gX11_stateNow_X11_stateOf rfl rfl rfl (by decide +kernel) ⟨Nat.le_of_ble_eq_true rfl, Nat.le_of_ble_eq_true rfl⟩) (gP.V (ci := 10) (q := (RX11, TX11, 23)) (q0 := 0) hE hS hW rfl rfl) rfl rfl hl.1 rfl (lv_room (Nat.le_of_ble_eq_true rfl)) dX11_stateNow_11 ⟨Nat.le_of_ble_eq_true rfl, Nat.le_of_ble_eq_true rfl⟩) hS (fun _ _ h => h) (fun _ h => h) (fun r11 M11 t H locs ht hvm hw hB hz1 hk1 hS => ?_)
  obtain ⟨er11, eM11⟩ := prj hw
  clear hw
  have hW : gW E M11 S H := by rw [← ht]; exact hB
  exact W.iret (v := r11) hx hb hr (fun t ht _ => ⟨⟨r11, M11, rfl, by subst eM11; subst er11; subst er5; first | (simp only [q_X11_stateNow]; done) | contradiction, by dsimp only; rw [ht]; exact hW⟩, hS.F ht⟩) hS.2.2 dX11_stateNow_14

def q_X11_ask (M : gSm) (p1 : Int32) (p2 : Int32) (p3 : Int32) : Int32 := (let r1 := q_X11_isPlace p1; (if r1 = 0 then (-2000000001) else (let r9 := q_X11_isTime p2 p3; (if r9 = 0 then (-2000000001) else (let r20 := q_X11_isDial M p1; (if r20 = 0 then (-2000000002) else 0))))))
set_option maxHeartbeats 4000000 in
set_option maxRecDepth 100000 in
theorem c_X11_ask (l : Launch) (E : gEE) (M : gSm) (S : gSc) (p1 : Int32) (p2 : Int32) (p3 : Int32)  : Met l yX11_ask wsX11_ask ({ frames := 2, cells := 0, slots := 0, locals := 46 }) (va_Pc [.ref (eM E 0), .int (p1), .int (p2), .int (p3)] (gP E M S)) (vp_Si (fun r => r = q_X11_ask M p1 p2 p3)) 0 0 (fun _ => False) := by
  refine Met.ofW (cc := cX11_ask) (maxL := 4) (ret := (some .int)) (by decide) rfl ?_
  intro p e s m args below meth c s₁ B hml hv
  obtain ⟨rfl, hE, hW⟩ := hv
  have hx := B.exec
  have hb := B.bytes
  have hr := B.returns
  have hts := atoms_spec (ws := wsX11_ask) B.pre
  have hown : s.vm.findClass RX11 = some m.cls := findClass_of_methodNamed B.named
  have hlocks := B.notSynchronized
  have hS : va_S (eA E) s.heap s.heap [] := va_S.rf
  have hl := lv_entry ([.ref (eM E 0), .int (p1), .int (p2), .int (p3)]) (n := 4) (Nat.le_of_ble_eq_true rfl)
  rw [lg_entry_eq]
  generalize (lg_sl ([.ref (eM E 0), .int (p1), .int (p2), .int (p3)]) ++ List.replicate (4 - (lg_sl ([.ref (eM E 0), .int (p1), .int (p2), .int (p3)])).length) Slot.unset).toArray = ls at hl ⊢
  have hl : lv_has ls 4 [(0, .ref (eM E 0)), (1, .int (p1)), (2, .int (p2)), (3, .int (p3))] := hl
  refine lv_iload_n hx hb dX11_ask_0 rfl (lv_at hl 1 rfl) ?_
  refine k_Si (va_runS (As := [.int (p1)]) (rest := []) ⟨hx, hb, hml, hown, hts⟩ (c_X11_isPlace l p1) (va_cwS 1 hts gX11_ask_X11_isPlace rfl rfl rfl (by decide +kernel) ⟨Nat.le_of_ble_eq_true rfl, Nat.le_of_ble_eq_true rfl⟩) gP0 rfl rfl hl.1 rfl (lv_room (Nat.le_of_ble_eq_true rfl)) dX11_ask_1 ⟨Nat.le_of_ble_eq_true rfl, Nat.le_of_ble_eq_true rfl⟩) (fun r1 er1 => ?_)
  refine lv_if_eq (tgt := 15) hx hb dX11_ask_4 (by decide) (fun c4 => ?_) (fun c4 => ?_)
  · refine lv_ldc hx hb (v := (-2000000001)) hown (hts (.constant RX11 73 (-2000000001)) (by decide +kernel)) dX11_ask_15 ?_
    exact W.iret (v := (-2000000001)) hx hb hr (fun t ht _ => ⟨(-2000000001), rfl, by subst er1; first | (simp only [q_X11_ask, if_pos c4]; done) | contradiction, ht⟩) (fun _ h => nomatch h) dX11_ask_17
  · refine lv_iload_n hx hb dX11_ask_7 rfl (lv_at hl 2 rfl) ?_
    refine lv_iload_n hx hb dX11_ask_8 rfl (lv_at hl 3 rfl) ?_
    refine k_Si (va_runS (As := [.int (p2), .int (p3)]) (rest := []) ⟨hx, hb, hml, hown, hts⟩ (c_X11_isTime l p2 p3) (va_cwS 2 hts gX11_ask_X11_isTime rfl rfl rfl (by decide +kernel) ⟨Nat.le_of_ble_eq_true rfl, Nat.le_of_ble_eq_true rfl⟩) gP0 rfl rfl hl.1 rfl (lv_room (Nat.le_of_ble_eq_true rfl)) dX11_ask_9 ⟨Nat.le_of_ble_eq_true rfl, Nat.le_of_ble_eq_true rfl⟩) (fun r9 er9 => ?_)
    refine lv_if_ne (tgt := 18) hx hb dX11_ask_12 (by decide) (fun c12 => ?_) (fun c12 => ?_)
    · refine lv_aload_n hx hb dX11_ask_18 rfl (lv_at hl 0 rfl) ?_
      refine lv_iload_n hx hb dX11_ask_19 rfl (lv_at hl 1 rfl) ?_
      refine k_Si (va_runV (As := [.int (p1)]) (rest := []) ⟨hx, hb, hml, hown, hts⟩ (c_X11_isDial l E M S p1 (isPm_of er1 c4)) (cwV 1 hts gX11_ask_X11_isDial rfl rfl rfl (by decide +kernel) ⟨Nat.le_of_ble_eq_true rfl, Nat.le_of_ble_eq_true rfl⟩) (gP.V (ci := 10) (q := (RX11, TX11, 23)) (q0 := 0) hE hS hW rfl rfl) rfl rfl hl.1 rfl (lv_room (Nat.le_of_ble_eq_true rfl)) dX11_ask_20 ⟨Nat.le_of_ble_eq_true rfl, Nat.le_of_ble_eq_true rfl⟩) (fun r20 er20 => ?_)
      refine lv_if_eq (tgt := 30) hx hb dX11_ask_23 (by decide) (fun c23 => ?_) (fun c23 => ?_)
      · refine lv_ldc hx hb (v := (-2000000002)) hown (hts (.constant RX11 141 (-2000000002)) (by decide +kernel)) dX11_ask_30 ?_
        exact W.iret (v := (-2000000002)) hx hb hr (fun t ht _ => ⟨(-2000000002), rfl, by subst er20; subst er9; subst er1; first | (simp only [q_X11_ask, if_neg c4, if_neg c12, if_pos c23]; done) | contradiction, ht⟩) (fun _ h => nomatch h) dX11_ask_32
      · refine lv_iconst (v := 0) hx hb dX11_ask_26 (by decide) ?_
        refine lv_goto (tgt := 32) hx hb dX11_ask_27 (by decide) ?_
        exact W.iret (v := 0) hx hb hr (fun t ht _ => ⟨0, rfl, by subst er20; subst er9; subst er1; first | (simp only [q_X11_ask, if_neg c4, if_neg c12, if_neg c23]; done) | contradiction, ht⟩) (fun _ h => nomatch h) dX11_ask_32
    · refine lv_ldc hx hb (v := (-2000000001)) hown (hts (.constant RX11 73 (-2000000001)) (by decide +kernel)) dX11_ask_15 ?_
      exact W.iret (v := (-2000000001)) hx hb hr (fun t ht _ => ⟨(-2000000001), rfl, by subst er9; subst er1; first | (simp only [q_X11_ask, if_neg c4, if_pos c12]; done) | contradiction, ht⟩) (fun _ h => nomatch h) dX11_ask_17
