def q_X11_line_b235 (M : gSm) (p1 : Int32) (p2 : Int32) (p3 : Int32) (kk : Int32 → Int32 → gSm → Int32 × gSm) (v4 : Int32) (v6 : Int32) (t0 : Int64) (Z : gSm) : Int32 × gSm := (let x236 := v4 + 1; (let x239 := v6 + 1; kk x236 x239 (pJ Z 7 ((6 : Int32).toNatClampNeg) t0)))
def q_X11_line_b200 (M : gSm) (p1 : Int32) (p2 : Int32) (p3 : Int32) (kk : Int32 → Int32 → gSm → Int32 × gSm) (v4 : Int32) (v6 : Int32) (t0 : Int64) (Z : gSm) : Int32 × gSm := (if v4 = 0 then q_X11_line_b235 M p1 p2 p3 kk v4 v6 (Z.2 0 15) (pJ Z 7 ((5 : Int32).toNatClampNeg) t0) else (if (Z.2 0 15) ≤ ((vp_updL (Z.2 7) ((5 : Int32).toNatClampNeg) t0) ((6 : Int32).toNatClampNeg)) then q_X11_line_b235 M p1 p2 p3 kk v4 v6 ((vp_updL (Z.2 7) ((5 : Int32).toNatClampNeg) t0) ((6 : Int32).toNatClampNeg)) (pJ Z 7 ((5 : Int32).toNatClampNeg) t0) else q_X11_line_b235 M p1 p2 p3 kk v4 v6 (Z.2 0 15) (pJ Z 7 ((5 : Int32).toNatClampNeg) t0)))
def q_X11_line_b168 (M : gSm) (p1 : Int32) (p2 : Int32) (p3 : Int32) (kk : Int32 → Int32 → gSm → Int32 × gSm) (v4 : Int32) (v6 : Int32) (t0 : Int64) (Z : gSm) : Int32 × gSm := (if v4 = 0 then q_X11_line_b200 M p1 p2 p3 kk v4 v6 (Z.2 0 15) (pJ Z 7 ((4 : Int32).toNatClampNeg) t0) else (if ((vp_updL (Z.2 7) ((4 : Int32).toNatClampNeg) t0) ((5 : Int32).toNatClampNeg)) ≤ (Z.2 0 15) then q_X11_line_b200 M p1 p2 p3 kk v4 v6 ((vp_updL (Z.2 7) ((4 : Int32).toNatClampNeg) t0) ((5 : Int32).toNatClampNeg)) (pJ Z 7 ((4 : Int32).toNatClampNeg) t0) else q_X11_line_b200 M p1 p2 p3 kk v4 v6 (Z.2 0 15) (pJ Z 7 ((4 : Int32).toNatClampNeg) t0)))
def q_X11_line_b136 (M : gSm) (p1 : Int32) (p2 : Int32) (p3 : Int32) (kk : Int32 → Int32 → gSm → Int32 × gSm) (v4 : Int32) (v6 : Int32) (t0 : Int64) (Z : gSm) : Int32 × gSm := (if v4 = 0 then q_X11_line_b168 M p1 p2 p3 kk v4 v6 (Z.2 0 14) (pJ Z 7 ((3 : Int32).toNatClampNeg) t0) else (if (Z.2 0 14) ≤ ((vp_updL (Z.2 7) ((3 : Int32).toNatClampNeg) t0) ((4 : Int32).toNatClampNeg)) then q_X11_line_b168 M p1 p2 p3 kk v4 v6 ((vp_updL (Z.2 7) ((3 : Int32).toNatClampNeg) t0) ((4 : Int32).toNatClampNeg)) (pJ Z 7 ((3 : Int32).toNatClampNeg) t0) else q_X11_line_b168 M p1 p2 p3 kk v4 v6 (Z.2 0 14) (pJ Z 7 ((3 : Int32).toNatClampNeg) t0)))
def q_X11_line_b97 (M : gSm) (p1 : Int32) (p2 : Int32) (p3 : Int32) (kk : Int32 → Int32 → gSm → Int32 × gSm) (v4 : Int32) (v6 : Int32) (t0 : Int64) (Z : gSm) : Int32 × gSm := (if v4 = 0 then q_X11_line_b136 M p1 p2 p3 kk v4 v6 (Z.2 0 14) (pJ (pJ Z 7 ((1 : Int32).toNatClampNeg) t0) 7 ((2 : Int32).toNatClampNeg) (v6.toInt64)) else (if ((vp_updL (vp_updL (Z.2 7) ((1 : Int32).toNatClampNeg) t0) ((2 : Int32).toNatClampNeg) (v6.toInt64)) ((3 : Int32).toNatClampNeg)) ≤ (Z.2 0 14) then q_X11_line_b136 M p1 p2 p3 kk v4 v6 ((vp_updL (vp_updL (Z.2 7) ((1 : Int32).toNatClampNeg) t0) ((2 : Int32).toNatClampNeg) (v6.toInt64)) ((3 : Int32).toNatClampNeg)) (pJ (pJ Z 7 ((1 : Int32).toNatClampNeg) t0) 7 ((2 : Int32).toNatClampNeg) (v6.toInt64)) else q_X11_line_b136 M p1 p2 p3 kk v4 v6 (Z.2 0 14) (pJ (pJ Z 7 ((1 : Int32).toNatClampNeg) t0) 7 ((2 : Int32).toNatClampNeg) (v6.toInt64))))
def q_X11_line_b57 (M : gSm) (p1 : Int32) (p2 : Int32) (p3 : Int32) : Nat → Int32 → Int32 → gSm → Int32 × gSm
  | 0, v4, v6, Z => (0, Z)
  | n + 1, v4, v6, Z => (if 366 ≤ v6 then (if p3 = 0 then (v4, Z) else (if v4 = 0 then ((-2000000005), Z) else ((Z.2 7 (p3.toNatClampNeg)).toInt32, Z))) else (let r73 := (q_X11_stateNow Z p1 v6 (60 * p2)).1; let M73 := (q_X11_stateNow Z p1 v6 (60 * p2)).2; (if r73 = 0 then (if v4 = 0 then q_X11_line_b97 M p1 p2 p3 (q_X11_line_b57 M p1 p2 p3 n) v4 v6 (v6.toInt64) M73 else q_X11_line_b97 M p1 p2 p3 (q_X11_line_b57 M p1 p2 p3 n) v4 v6 (M73.2 7 ((1 : Int32).toNatClampNeg)) M73) else (let x239 := v6 + 1; q_X11_line_b57 M p1 p2 p3 n v4 x239 M73))))
def q_X11_line (M : gSm) (p1 : Int32) (p2 : Int32) (p3 : Int32) : Int32 × gSm := (let r1 := q_X11_isPlace p1; (if r1 = 0 then ((-2000000001), M) else (let r13 := q_X11_isIn (p2.toInt64) 0 23; (if r13 = 0 then ((-2000000001), M) else (let r25 := q_X11_isIn (p3.toInt64) 0 6; (if r25 = 0 then ((-2000000001), M) else (let r36 := q_X11_isDial M p1; (if r36 = 0 then ((-2000000002), M) else q_X11_line_b57 M p1 p2 p3 367 0 0 M))))))))
set_option maxHeartbeats 4000000 in
set_option maxRecDepth 100000 in
theorem c_X11_line (l : Launch) (E : gEE) (M : gSm) (S : gSc) (p1 : Int32) (p2 : Int32) (p3 : Int32) (hc : (M.1 0 6).toInt ≤ 366) : Met l yX11_line wsX11_line ({ frames := 6, cells := 0, slots := 0, locals := 156 }) (va_Pc [.ref (eM E 0), .int (p1), .int (p2), .int (p3)] (gP E M S)) (va_Qi (fun r (u : gSm) => (r, u) = q_X11_line M p1 p2 p3) (fun u t => gW E u S t.heap) (eA E)) 0 0 (eA E) := by
  refine Met.ofW (cc := cX11_line) (maxL := 7) (ret := (some .int)) (by decide) rfl ?_
  intro p e s m args below meth c s₁ B hml hv
  obtain ⟨rfl, hE, hW⟩ := hv
  have hx := B.exec
  have hb := B.bytes
  have hr := B.returns
  have hts := atoms_spec (ws := wsX11_line) B.pre
  have hown : s.vm.findClass RX11 = some m.cls := findClass_of_methodNamed B.named
  have hlocks := B.notSynchronized
  have hinX11 : ∀ w ∈ wsX110, w ∈ wsX11_line := by decide +kernel
  have hS : va_S (eA E) s.heap s.heap [] := va_S.rf
  have hl := lv_entry ([.ref (eM E 0), .int (p1), .int (p2), .int (p3)]) (n := 7) (Nat.le_of_ble_eq_true rfl)
  rw [lg_entry_eq]
  generalize (lg_sl ([.ref (eM E 0), .int (p1), .int (p2), .int (p3)]) ++ List.replicate (7 - (lg_sl ([.ref (eM E 0), .int (p1), .int (p2), .int (p3)])).length) Slot.unset).toArray = ls at hl ⊢
  have hl : lv_has ls 7 [(0, .ref (eM E 0)), (1, .int (p1)), (2, .int (p2)), (3, .int (p3))] := hl
  have hS : ∃ (H : Heap) (locs : List Loc), H = s.heap ∧ locs = [] ∧ gW E M S H ∧ va_S (eA E) s.heap H locs := ⟨_, _, rfl, rfl, hW, hS⟩
  clear hW
  obtain ⟨H, locs, eH, el, hW, hS⟩ := hS
  rw [← eH, ← el]
  clear eH el
  have L57 : ∀ n : Nat, ∀ (v4 : Int32) (v6 : Int32) (Z : gSm) (H : Heap) (locs : List Loc) (ls : Array Slot), ((gL 366 n v6 ∧ (Z.1 0 6).toInt ≤ 366) ∧ isP p1 ∧ 0 ≤ p3.toInt ∧ p3.toInt < 7) → q_X11_line M p1 p2 p3 = q_X11_line_b57 M p1 p2 p3 n v4 v6 Z → gW E Z S H → va_S (eA E) s.heap H locs → lv_has ls 7 [(0, .ref (eM E 0)), (1, .int (p1)), (2, .int (p2)), (3, .int (p3)), (4, .int (v4)), (5, .ref (eM E 7)), (6, .int (v6))] → W p l e (headSpec wsX11_line ({ frames := 6, cells := 0, slots := 0, locals := 156 })).room s m ([.ref (eM E 0), .int (p1), .int (p2), .int (p3)] : List Value).toArray below meth c H locs 0 0 (MQ below (va_Qi (fun r (u : gSm) => (r, u) = q_X11_line M p1 p2 p3) (fun u t => gW E u S t.heap) (eA E)) ([.ref (eM E 0), .int (p1), .int (p2), .int (p3)] : List Value).toArray s 0 0 (eA E)) (F0 m 57 ls []) := by
    intro n
    induction n with
    | zero =>
      intro v4 v6 Z H locs ls hi hq hW hS hl
      exact hi.1.1.z
    | succ n ih =>
      intro v4 v6 Z H locs ls hi hq hW hS hl
      have J235 : ∀ (v4 : Int32) (v6 : Int32) (t0 : Int64) (Z : gSm) (H : Heap) (locs : List Loc) (ls : Array Slot), ((gL 366 (n + 1) v6 ∧ (Z.1 0 6).toInt ≤ 366) ∧ (isP p1 ∧ 0 ≤ p3.toInt ∧ p3.toInt < 7) ∧ ¬ 366 ≤ v6) → q_X11_line M p1 p2 p3 = q_X11_line_b235 M p1 p2 p3 (q_X11_line_b57 M p1 p2 p3 n) v4 v6 t0 Z → gW E Z S H → va_S (eA E) s.heap H locs → lv_has ls 7 [(0, .ref (eM E 0)), (1, .int (p1)), (2, .int (p2)), (3, .int (p3)), (4, .int (v4)), (5, .ref (eM E 7)), (6, .int (v6))] → W p l e (headSpec wsX11_line ({ frames := 6, cells := 0, slots := 0, locals := 156 })).room s m ([.ref (eM E 0), .int (p1), .int (p2), .int (p3)] : List Value).toArray below meth c H locs 0 0 (MQ below (va_Qi (fun r (u : gSm) => (r, u) = q_X11_line M p1 p2 p3) (fun u t => gW E u S t.heap) (eA E)) ([.ref (eM E 0), .int (p1), .int (p2), .int (p3)] : List Value).toArray s 0 0 (eA E)) (F0 m 235 ls [.long (t0), .int (6), .ref (eM E 7)]) := by
        intro v4 v6 t0 Z H locs ls hi hq hW hS hl
        refine va_last (D := eD E) (cl := vwCl) (tys := eT E) (A := eA E) (f := Z.2 7) (x := t0) hx hb hE.1 hW.1 hW.2 hS 7 1 rfl rfl (vp_in_nI (n := 6) (by decide) (by decide)) dX11_line_235 (fun H locs hP hD hS => ?_)
        have hW : gW E (pJ Z 7 ((6 : Int32).toNatClampNeg) t0) S H := gW.of (tM_J7 E Z S (vp_updL (Z.2 7) ((6 : Int32).toNatClampNeg) t0)) hP hD
        obtain ⟨x236, ex236⟩ : ∃ y : Int32, y = v4 + 1 := ⟨_, rfl⟩
        refine lv_iinc (v := x236) (lv' := [(4, .int (x236)), (0, .ref (eM E 0)), (1, .int (p1)), (2, .int (p2)), (3, .int (p3)), (5, .ref (eM E 7)), (6, .int (v6))]) hx hb dX11_line_236 hl (k := 4) rfl (by rw [ex236]; rfl) (by decide) rfl (fun ls hl => ?_)
        obtain ⟨x239, ex239⟩ : ∃ y : Int32, y = v6 + 1 := ⟨_, rfl⟩
        refine lv_iinc (v := x239) (lv' := [(6, .int (x239)), (4, .int (x236)), (0, .ref (eM E 0)), (1, .int (p1)), (2, .int (p2)), (3, .int (p3)), (5, .ref (eM E 7))]) hx hb dX11_line_239 hl (k := 6) rfl (by rw [ex239]; rfl) (by decide) rfl (fun ls hl => ?_)
        refine lv_goto (tgt := 57) hx hb dX11_line_242 (by decide) ?_
        exact ih _ _ _ _ _ _ (by first | exact ⟨⟨hi.1.1.st c62 (by decide) ex239, by show (M73.1 0 6).toInt ≤ 366; rw [eM73, stn_I]; exact hi.1.2⟩, hi.2⟩ | exact ⟨⟨hi.1.1.st hi.2.2 (by decide) ex239, hi.1.2⟩, hi.2.1⟩) (by rw [hq]; subst ex239; subst ex236; first | (simp only [q_X11_line_b235]; done) | contradiction) hW hS (lv_sub hl [2, 3, 4, 5, 1, 6, 0] rfl)
      have J200 : ∀ (v4 : Int32) (v6 : Int32) (t0 : Int64) (Z : gSm) (H : Heap) (locs : List Loc) (ls : Array Slot), ((gL 366 (n + 1) v6 ∧ (Z.1 0 6).toInt ≤ 366) ∧ (isP p1 ∧ 0 ≤ p3.toInt ∧ p3.toInt < 7) ∧ ¬ 366 ≤ v6) → q_X11_line M p1 p2 p3 = q_X11_line_b200 M p1 p2 p3 (q_X11_line_b57 M p1 p2 p3 n) v4 v6 t0 Z → gW E Z S H → va_S (eA E) s.heap H locs → lv_has ls 7 [(0, .ref (eM E 0)), (1, .int (p1)), (2, .int (p2)), (3, .int (p3)), (4, .int (v4)), (5, .ref (eM E 7)), (6, .int (v6))] → W p l e (headSpec wsX11_line ({ frames := 6, cells := 0, slots := 0, locals := 156 })).room s m ([.ref (eM E 0), .int (p1), .int (p2), .int (p3)] : List Value).toArray below meth c H locs 0 0 (MQ below (va_Qi (fun r (u : gSm) => (r, u) = q_X11_line M p1 p2 p3) (fun u t => gW E u S t.heap) (eA E)) ([.ref (eM E 0), .int (p1), .int (p2), .int (p3)] : List Value).toArray s 0 0 (eA E)) (F0 m 200 ls [.long (t0), .int (5), .ref (eM E 7)]) := by
        intro v4 v6 t0 Z H locs ls hi hq hW hS hl
        refine va_last (D := eD E) (cl := vwCl) (tys := eT E) (A := eA E) (f := Z.2 7) (x := t0) hx hb hE.1 hW.1 hW.2 hS 7 1 rfl rfl (vp_in_nI (n := 5) (by decide) (by decide)) dX11_line_200 (fun H locs hP hD hS => ?_)
        have hW : gW E (pJ Z 7 ((5 : Int32).toNatClampNeg) t0) S H := gW.of (tM_J7 E Z S (vp_updL (Z.2 7) ((5 : Int32).toNatClampNeg) t0)) hP hD
        refine lv_aload hx hb dX11_line_201 (lv_at hl 5 rfl) ?_
        refine lv_bipush (v := 6) hx hb dX11_line_203 (by decide) ?_
        refine lv_iload hx hb dX11_line_205 (lv_at hl 4 rfl) ?_
        refine lv_if_eq (tgt := 223) hx hb dX11_line_207 (by decide) (fun c207 => ?_) (fun c207 => ?_)
        · refine lv_aload_n hx hb dX11_line_223 rfl (lv_at hl 0 rfl) ?_
          refine va_get (D := eD E) (cl := vwCl) (tys := eT E) (ci := 10) (C := RX11) (T := TX11) (N := 23) (v := .long (Z.2 0 15)) hx hb hts hinX11 hown hE.1 hW.1 0 rfl rfl 15 (by decide) (hts (.fieldLink RX11 192 "DialGardenModel" "endY" "J") (by decide +kernel)) (fun _ h9 => h9) rfl dX11_line_224 ?_
          refine lv_goto (tgt := 235) hx hb dX11_line_227 (by decide) ?_
          exact J235 _ _ _ _ _ _ _ (by first | exact hi | exact ⟨⟨hi.1.1, by show (M73.1 0 6).toInt ≤ 366; rw [eM73, stn_I]; exact hi.1.2⟩, hi.2, c62⟩) (by rw [hq]; first | (simp only [q_X11_line_b200, if_pos c207]; done) | contradiction) hW hS (lv_sub hl [0, 1, 2, 3, 4, 5, 6] rfl)
        · refine lv_aload_n hx hb dX11_line_210 rfl (lv_at hl 0 rfl) ?_
          refine va_get (D := eD E) (cl := vwCl) (tys := eT E) (ci := 10) (C := RX11) (T := TX11) (N := 23) (v := .long (Z.2 0 15)) hx hb hts hinX11 hown hE.1 hW.1 0 rfl rfl 15 (by decide) (hts (.fieldLink RX11 192 "DialGardenModel" "endY" "J") (by decide +kernel)) (fun _ h9 => h9) rfl dX11_line_211 ?_
          refine lv_aload hx hb dX11_line_214 (lv_at hl 5 rfl) ?_
          refine lv_bipush (v := 6) hx hb dX11_line_216 (by decide) ?_
          refine va_lald (D := eD E) (cl := vwCl) (tys := eT E) (f := vp_updL (Z.2 7) ((5 : Int32).toNatClampNeg) t0) hx hb hE.1 hW.1 7 1 rfl rfl (vp_in_nI (n := 6) (by decide) (by decide)) dX11_line_218 ?_
          refine k_lle (tgt := 230) hx hb dX11_line_219 dX11_line_220 (by decide) (fun c219 => ?_) (fun c219 => ?_)
          · refine lv_aload hx hb dX11_line_230 (lv_at hl 5 rfl) ?_
            refine lv_bipush (v := 6) hx hb dX11_line_232 (by decide) ?_
            refine va_lald (D := eD E) (cl := vwCl) (tys := eT E) (f := vp_updL (Z.2 7) ((5 : Int32).toNatClampNeg) t0) hx hb hE.1 hW.1 7 1 rfl rfl (vp_in_nI (n := 6) (by decide) (by decide)) dX11_line_234 ?_
            exact J235 _ _ _ _ _ _ _ (by first | exact hi | exact ⟨⟨hi.1.1, by show (M73.1 0 6).toInt ≤ 366; rw [eM73, stn_I]; exact hi.1.2⟩, hi.2, c62⟩) (by rw [hq]; first | (simp only [q_X11_line_b200, if_neg c207, if_pos c219]; done) | contradiction) hW hS (lv_sub hl [0, 1, 2, 3, 4, 5, 6] rfl)
          · refine lv_aload_n hx hb dX11_line_223 rfl (lv_at hl 0 rfl) ?_
            refine va_get (D := eD E) (cl := vwCl) (tys := eT E) (ci := 10) (C := RX11) (T := TX11) (N := 23) (v := .long (Z.2 0 15)) hx hb hts hinX11 hown hE.1 hW.1 0 rfl rfl 15 (by decide) (hts (.fieldLink RX11 192 "DialGardenModel" "endY" "J") (by decide +kernel)) (fun _ h9 => h9) rfl dX11_line_224 ?_
            refine lv_goto (tgt := 235) hx hb dX11_line_227 (by decide) ?_
            exact J235 _ _ _ _ _ _ _ (by first | exact hi | exact ⟨⟨hi.1.1, by show (M73.1 0 6).toInt ≤ 366; rw [eM73, stn_I]; exact hi.1.2⟩, hi.2, c62⟩) (by rw [hq]; first | (simp only [q_X11_line_b200, if_neg c207, if_neg c219]; done) | contradiction) hW hS (lv_sub hl [0, 1, 2, 3, 4, 5, 6] rfl)
      have J168 : ∀ (v4 : Int32) (v6 : Int32) (t0 : Int64) (Z : gSm) (H : Heap) (locs : List Loc) (ls : Array Slot), ((gL 366 (n + 1) v6 ∧ (Z.1 0 6).toInt ≤ 366) ∧ (isP p1 ∧ 0 ≤ p3.toInt ∧ p3.toInt < 7) ∧ ¬ 366 ≤ v6) → q_X11_line M p1 p2 p3 = q_X11_line_b168 M p1 p2 p3 (q_X11_line_b57 M p1 p2 p3 n) v4 v6 t0 Z → gW E Z S H → va_S (eA E) s.heap H locs → lv_has ls 7 [(0, .ref (eM E 0)), (1, .int (p1)), (2, .int (p2)), (3, .int (p3)), (4, .int (v4)), (5, .ref (eM E 7)), (6, .int (v6))] → W p l e (headSpec wsX11_line ({ frames := 6, cells := 0, slots := 0, locals := 156 })).room s m ([.ref (eM E 0), .int (p1), .int (p2), .int (p3)] : List Value).toArray below meth c H locs 0 0 (MQ below (va_Qi (fun r (u : gSm) => (r, u) = q_X11_line M p1 p2 p3) (fun u t => gW E u S t.heap) (eA E)) ([.ref (eM E 0), .int (p1), .int (p2), .int (p3)] : List Value).toArray s 0 0 (eA E)) (F0 m 168 ls [.long (t0), .int (4), .ref (eM E 7)]) := by
        intro v4 v6 t0 Z H locs ls hi hq hW hS hl
        refine va_last (D := eD E) (cl := vwCl) (tys := eT E) (A := eA E) (f := Z.2 7) (x := t0) hx hb hE.1 hW.1 hW.2 hS 7 1 rfl rfl (vp_in_nI (n := 4) (by decide) (by decide)) dX11_line_168 (fun H locs hP hD hS => ?_)
        have hW : gW E (pJ Z 7 ((4 : Int32).toNatClampNeg) t0) S H := gW.of (tM_J7 E Z S (vp_updL (Z.2 7) ((4 : Int32).toNatClampNeg) t0)) hP hD
        refine lv_aload hx hb dX11_line_169 (lv_at hl 5 rfl) ?_
        refine lv_iconst (v := 5) hx hb dX11_line_171 (by decide) ?_
        refine lv_iload hx hb dX11_line_172 (lv_at hl 4 rfl) ?_
        refine lv_if_eq (tgt := 189) hx hb dX11_line_174 (by decide) (fun c174 => ?_) (fun c174 => ?_)
        · refine lv_aload_n hx hb dX11_line_189 rfl (lv_at hl 0 rfl) ?_
          refine va_get (D := eD E) (cl := vwCl) (tys := eT E) (ci := 10) (C := RX11) (T := TX11) (N := 23) (v := .long (Z.2 0 15)) hx hb hts hinX11 hown hE.1 hW.1 0 rfl rfl 15 (by decide) (hts (.fieldLink RX11 192 "DialGardenModel" "endY" "J") (by decide +kernel)) (fun _ h9 => h9) rfl dX11_line_190 ?_
          refine lv_goto (tgt := 200) hx hb dX11_line_193 (by decide) ?_
          exact J200 _ _ _ _ _ _ _ (by first | exact hi | exact ⟨⟨hi.1.1, by show (M73.1 0 6).toInt ≤ 366; rw [eM73, stn_I]; exact hi.1.2⟩, hi.2, c62⟩) (by rw [hq]; first | (simp only [q_X11_line_b168, if_pos c174]; done) | contradiction) hW hS (lv_sub hl [0, 1, 2, 3, 4, 5, 6] rfl)
        · refine lv_aload_n hx hb dX11_line_177 rfl (lv_at hl 0 rfl) ?_
          refine va_get (D := eD E) (cl := vwCl) (tys := eT E) (ci := 10) (C := RX11) (T := TX11) (N := 23) (v := .long (Z.2 0 15)) hx hb hts hinX11 hown hE.1 hW.1 0 rfl rfl 15 (by decide) (hts (.fieldLink RX11 192 "DialGardenModel" "endY" "J") (by decide +kernel)) (fun _ h9 => h9) rfl dX11_line_178 ?_
          refine lv_aload hx hb dX11_line_181 (lv_at hl 5 rfl) ?_
          refine lv_iconst (v := 5) hx hb dX11_line_183 (by decide) ?_
          refine va_lald (D := eD E) (cl := vwCl) (tys := eT E) (f := vp_updL (Z.2 7) ((4 : Int32).toNatClampNeg) t0) hx hb hE.1 hW.1 7 1 rfl rfl (vp_in_nI (n := 5) (by decide) (by decide)) dX11_line_184 ?_
          refine k_lge (tgt := 196) hx hb dX11_line_185 dX11_line_186 (by decide) (fun c185 => ?_) (fun c185 => ?_)
          · refine lv_aload hx hb dX11_line_196 (lv_at hl 5 rfl) ?_
            refine lv_iconst (v := 5) hx hb dX11_line_198 (by decide) ?_
            refine va_lald (D := eD E) (cl := vwCl) (tys := eT E) (f := vp_updL (Z.2 7) ((4 : Int32).toNatClampNeg) t0) hx hb hE.1 hW.1 7 1 rfl rfl (vp_in_nI (n := 5) (by decide) (by decide)) dX11_line_199 ?_
            exact J200 _ _ _ _ _ _ _ (by first | exact hi | exact ⟨⟨hi.1.1, by show (M73.1 0 6).toInt ≤ 366; rw [eM73, stn_I]; exact hi.1.2⟩, hi.2, c62⟩) (by rw [hq]; first | (simp only [q_X11_line_b168, if_neg c174, if_pos c185]; done) | contradiction) hW hS (lv_sub hl [0, 1, 2, 3, 4, 5, 6] rfl)
          · refine lv_aload_n hx hb dX11_line_189 rfl (lv_at hl 0 rfl) ?_
            refine va_get (D := eD E) (cl := vwCl) (tys := eT E) (ci := 10) (C := RX11) (T := TX11) (N := 23) (v := .long (Z.2 0 15)) hx hb hts hinX11 hown hE.1 hW.1 0 rfl rfl 15 (by decide) (hts (.fieldLink RX11 192 "DialGardenModel" "endY" "J") (by decide +kernel)) (fun _ h9 => h9) rfl dX11_line_190 ?_
            refine lv_goto (tgt := 200) hx hb dX11_line_193 (by decide) ?_
            exact J200 _ _ _ _ _ _ _ (by first | exact hi | exact ⟨⟨hi.1.1, by show (M73.1 0 6).toInt ≤ 366; rw [eM73, stn_I]; exact hi.1.2⟩, hi.2, c62⟩) (by rw [hq]; first | (simp only [q_X11_line_b168, if_neg c174, if_neg c185]; done) | contradiction) hW hS (lv_sub hl [0, 1, 2, 3, 4, 5, 6] rfl)
      have J136 : ∀ (v4 : Int32) (v6 : Int32) (t0 : Int64) (Z : gSm) (H : Heap) (locs : List Loc) (ls : Array Slot), ((gL 366 (n + 1) v6 ∧ (Z.1 0 6).toInt ≤ 366) ∧ (isP p1 ∧ 0 ≤ p3.toInt ∧ p3.toInt < 7) ∧ ¬ 366 ≤ v6) → q_X11_line M p1 p2 p3 = q_X11_line_b136 M p1 p2 p3 (q_X11_line_b57 M p1 p2 p3 n) v4 v6 t0 Z → gW E Z S H → va_S (eA E) s.heap H locs → lv_has ls 7 [(0, .ref (eM E 0)), (1, .int (p1)), (2, .int (p2)), (3, .int (p3)), (4, .int (v4)), (5, .ref (eM E 7)), (6, .int (v6))] → W p l e (headSpec wsX11_line ({ frames := 6, cells := 0, slots := 0, locals := 156 })).room s m ([.ref (eM E 0), .int (p1), .int (p2), .int (p3)] : List Value).toArray below meth c H locs 0 0 (MQ below (va_Qi (fun r (u : gSm) => (r, u) = q_X11_line M p1 p2 p3) (fun u t => gW E u S t.heap) (eA E)) ([.ref (eM E 0), .int (p1), .int (p2), .int (p3)] : List Value).toArray s 0 0 (eA E)) (F0 m 136 ls [.long (t0), .int (3), .ref (eM E 7)]) := by
        intro v4 v6 t0 Z H locs ls hi hq hW hS hl
        refine va_last (D := eD E) (cl := vwCl) (tys := eT E) (A := eA E) (f := Z.2 7) (x := t0) hx hb hE.1 hW.1 hW.2 hS 7 1 rfl rfl (vp_in_nI (n := 3) (by decide) (by decide)) dX11_line_136 (fun H locs hP hD hS => ?_)
        have hW : gW E (pJ Z 7 ((3 : Int32).toNatClampNeg) t0) S H := gW.of (tM_J7 E Z S (vp_updL (Z.2 7) ((3 : Int32).toNatClampNeg) t0)) hP hD
        refine lv_aload hx hb dX11_line_137 (lv_at hl 5 rfl) ?_
        refine lv_iconst (v := 4) hx hb dX11_line_139 (by decide) ?_
        refine lv_iload hx hb dX11_line_140 (lv_at hl 4 rfl) ?_
        refine lv_if_eq (tgt := 157) hx hb dX11_line_142 (by decide) (fun c142 => ?_) (fun c142 => ?_)
        · refine lv_aload_n hx hb dX11_line_157 rfl (lv_at hl 0 rfl) ?_
          refine va_get (D := eD E) (cl := vwCl) (tys := eT E) (ci := 10) (C := RX11) (T := TX11) (N := 23) (v := .long (Z.2 0 14)) hx hb hts hinX11 hown hE.1 hW.1 0 rfl rfl 14 (by decide) (hts (.fieldLink RX11 189 "DialGardenModel" "endX" "J") (by decide +kernel)) (fun _ h9 => h9) rfl dX11_line_158 ?_
          refine lv_goto (tgt := 168) hx hb dX11_line_161 (by decide) ?_
          exact J168 _ _ _ _ _ _ _ (by first | exact hi | exact ⟨⟨hi.1.1, by show (M73.1 0 6).toInt ≤ 366; rw [eM73, stn_I]; exact hi.1.2⟩, hi.2, c62⟩) (by rw [hq]; first | (simp only [q_X11_line_b136, if_pos c142]; done) | contradiction) hW hS (lv_sub hl [0, 1, 2, 3, 4, 5, 6] rfl)
        · refine lv_aload_n hx hb dX11_line_145 rfl (lv_at hl 0 rfl) ?_
          refine va_get (D := eD E) (cl := vwCl) (tys := eT E) (ci := 10) (C := RX11) (T := TX11) (N := 23) (v := .long (Z.2 0 14)) hx hb hts hinX11 hown hE.1 hW.1 0 rfl rfl 14 (by decide) (hts (.fieldLink RX11 189 "DialGardenModel" "endX" "J") (by decide +kernel)) (fun _ h9 => h9) rfl dX11_line_146 ?_
          refine lv_aload hx hb dX11_line_149 (lv_at hl 5 rfl) ?_
          refine lv_iconst (v := 4) hx hb dX11_line_151 (by decide) ?_
          refine va_lald (D := eD E) (cl := vwCl) (tys := eT E) (f := vp_updL (Z.2 7) ((3 : Int32).toNatClampNeg) t0) hx hb hE.1 hW.1 7 1 rfl rfl (vp_in_nI (n := 4) (by decide) (by decide)) dX11_line_152 ?_
          refine k_lle (tgt := 164) hx hb dX11_line_153 dX11_line_154 (by decide) (fun c153 => ?_) (fun c153 => ?_)
          · refine lv_aload hx hb dX11_line_164 (lv_at hl 5 rfl) ?_
            refine lv_iconst (v := 4) hx hb dX11_line_166 (by decide) ?_
            refine va_lald (D := eD E) (cl := vwCl) (tys := eT E) (f := vp_updL (Z.2 7) ((3 : Int32).toNatClampNeg) t0) hx hb hE.1 hW.1 7 1 rfl rfl (vp_in_nI (n := 4) (by decide) (by decide)) dX11_line_167 ?_
            exact J168 _ _ _ _ _ _ _ (by first | exact hi | exact ⟨⟨hi.1.1, by show (M73.1 0 6).toInt ≤ 366; rw [eM73, stn_I]; exact hi.1.2⟩, hi.2, c62⟩) (by rw [hq]; first | (simp only [q_X11_line_b136, if_neg c142, if_pos c153]; done) | contradiction) hW hS (lv_sub hl [0, 1, 2, 3, 4, 5, 6] rfl)
          · refine lv_aload_n hx hb dX11_line_157 rfl (lv_at hl 0 rfl) ?_
            refine va_get (D := eD E) (cl := vwCl) (tys := eT E) (ci := 10) (C := RX11) (T := TX11) (N := 23) (v := .long (Z.2 0 14)) hx hb hts hinX11 hown hE.1 hW.1 0 rfl rfl 14 (by decide) (hts (.fieldLink RX11 189 "DialGardenModel" "endX" "J") (by decide +kernel)) (fun _ h9 => h9) rfl dX11_line_158 ?_
            refine lv_goto (tgt := 168) hx hb dX11_line_161 (by decide) ?_
            exact J168 _ _ _ _ _ _ _ (by first | exact hi | exact ⟨⟨hi.1.1, by show (M73.1 0 6).toInt ≤ 366; rw [eM73, stn_I]; exact hi.1.2⟩, hi.2, c62⟩) (by rw [hq]; first | (simp only [q_X11_line_b136, if_neg c142, if_neg c153]; done) | contradiction) hW hS (lv_sub hl [0, 1, 2, 3, 4, 5, 6] rfl)
      have J97 : ∀ (v4 : Int32) (v6 : Int32) (t0 : Int64) (Z : gSm) (H : Heap) (locs : List Loc) (ls : Array Slot), ((gL 366 (n + 1) v6 ∧ (Z.1 0 6).toInt ≤ 366) ∧ (isP p1 ∧ 0 ≤ p3.toInt ∧ p3.toInt < 7) ∧ ¬ 366 ≤ v6) → q_X11_line M p1 p2 p3 = q_X11_line_b97 M p1 p2 p3 (q_X11_line_b57 M p1 p2 p3 n) v4 v6 t0 Z → gW E Z S H → va_S (eA E) s.heap H locs → lv_has ls 7 [(0, .ref (eM E 0)), (1, .int (p1)), (2, .int (p2)), (3, .int (p3)), (4, .int (v4)), (5, .ref (eM E 7)), (6, .int (v6))] → W p l e (headSpec wsX11_line ({ frames := 6, cells := 0, slots := 0, locals := 156 })).room s m ([.ref (eM E 0), .int (p1), .int (p2), .int (p3)] : List Value).toArray below meth c H locs 0 0 (MQ below (va_Qi (fun r (u : gSm) => (r, u) = q_X11_line M p1 p2 p3) (fun u t => gW E u S t.heap) (eA E)) ([.ref (eM E 0), .int (p1), .int (p2), .int (p3)] : List Value).toArray s 0 0 (eA E)) (F0 m 97 ls [.long (t0), .int (1), .ref (eM E 7)]) := by
        intro v4 v6 t0 Z H locs ls hi hq hW hS hl
        refine va_last (D := eD E) (cl := vwCl) (tys := eT E) (A := eA E) (f := Z.2 7) (x := t0) hx hb hE.1 hW.1 hW.2 hS 7 1 rfl rfl (vp_in_nI (n := 1) (by decide) (by decide)) dX11_line_97 (fun H locs hP hD hS => ?_)
        have hW : gW E (pJ Z 7 ((1 : Int32).toNatClampNeg) t0) S H := gW.of (tM_J7 E Z S (vp_updL (Z.2 7) ((1 : Int32).toNatClampNeg) t0)) hP hD
        refine lv_aload hx hb dX11_line_98 (lv_at hl 5 rfl) ?_
        refine lv_iconst (v := 2) hx hb dX11_line_100 (by decide) ?_
        refine lv_iload hx hb dX11_line_101 (lv_at hl 6 rfl) ?_
        refine lv_i2l (v := v6.toInt64) hx hb dX11_line_103 rfl ?_
        refine va_last (D := eD E) (cl := vwCl) (tys := eT E) (A := eA E) (f := vp_updL (Z.2 7) ((1 : Int32).toNatClampNeg) t0) (x := v6.toInt64) hx hb hE.1 hW.1 hW.2 hS 7 1 rfl rfl (vp_in_nI (n := 2) (by decide) (by decide)) dX11_line_104 (fun H locs hP hD hS => ?_)
        have hW : gW E (pJ (pJ Z 7 ((1 : Int32).toNatClampNeg) t0) 7 ((2 : Int32).toNatClampNeg) (v6.toInt64)) S H := gW.of (tM_J7 E (pJ Z 7 ((1 : Int32).toNatClampNeg) t0) S (vp_updL (vp_updL (Z.2 7) ((1 : Int32).toNatClampNeg) t0) ((2 : Int32).toNatClampNeg) (v6.toInt64))) hP hD
        refine lv_aload hx hb dX11_line_105 (lv_at hl 5 rfl) ?_
        refine lv_iconst (v := 3) hx hb dX11_line_107 (by decide) ?_
        refine lv_iload hx hb dX11_line_108 (lv_at hl 4 rfl) ?_
        refine lv_if_eq (tgt := 125) hx hb dX11_line_110 (by decide) (fun c110 => ?_) (fun c110 => ?_)
        · refine lv_aload_n hx hb dX11_line_125 rfl (lv_at hl 0 rfl) ?_
          refine va_get (D := eD E) (cl := vwCl) (tys := eT E) (ci := 10) (C := RX11) (T := TX11) (N := 23) (v := .long (Z.2 0 14)) hx hb hts hinX11 hown hE.1 hW.1 0 rfl rfl 14 (by decide) (hts (.fieldLink RX11 189 "DialGardenModel" "endX" "J") (by decide +kernel)) (fun _ h9 => h9) rfl dX11_line_126 ?_
          refine lv_goto (tgt := 136) hx hb dX11_line_129 (by decide) ?_
          exact J136 _ _ _ _ _ _ _ (by first | exact hi | exact ⟨⟨hi.1.1, by show (M73.1 0 6).toInt ≤ 366; rw [eM73, stn_I]; exact hi.1.2⟩, hi.2, c62⟩) (by rw [hq]; first | (simp only [q_X11_line_b97, if_pos c110]; done) | contradiction) hW hS (lv_sub hl [0, 1, 2, 3, 4, 5, 6] rfl)
        · refine lv_aload_n hx hb dX11_line_113 rfl (lv_at hl 0 rfl) ?_
          refine va_get (D := eD E) (cl := vwCl) (tys := eT E) (ci := 10) (C := RX11) (T := TX11) (N := 23) (v := .long (Z.2 0 14)) hx hb hts hinX11 hown hE.1 hW.1 0 rfl rfl 14 (by decide) (hts (.fieldLink RX11 189 "DialGardenModel" "endX" "J") (by decide +kernel)) (fun _ h9 => h9) rfl dX11_line_114 ?_
          refine lv_aload hx hb dX11_line_117 (lv_at hl 5 rfl) ?_
          refine lv_iconst (v := 3) hx hb dX11_line_119 (by decide) ?_
          refine va_lald (D := eD E) (cl := vwCl) (tys := eT E) (f := vp_updL (vp_updL (Z.2 7) ((1 : Int32).toNatClampNeg) t0) ((2 : Int32).toNatClampNeg) (v6.toInt64)) hx hb hE.1 hW.1 7 1 rfl rfl (vp_in_nI (n := 3) (by decide) (by decide)) dX11_line_120 ?_
          refine k_lge (tgt := 132) hx hb dX11_line_121 dX11_line_122 (by decide) (fun c121 => ?_) (fun c121 => ?_)
          · refine lv_aload hx hb dX11_line_132 (lv_at hl 5 rfl) ?_
            refine lv_iconst (v := 3) hx hb dX11_line_134 (by decide) ?_
            refine va_lald (D := eD E) (cl := vwCl) (tys := eT E) (f := vp_updL (vp_updL (Z.2 7) ((1 : Int32).toNatClampNeg) t0) ((2 : Int32).toNatClampNeg) (v6.toInt64)) hx hb hE.1 hW.1 7 1 rfl rfl (vp_in_nI (n := 3) (by decide) (by decide)) dX11_line_135 ?_
            exact J136 _ _ _ _ _ _ _ (by first | exact hi | exact ⟨⟨hi.1.1, by show (M73.1 0 6).toInt ≤ 366; rw [eM73, stn_I]; exact hi.1.2⟩, hi.2, c62⟩) (by rw [hq]; first | (simp only [q_X11_line_b97, if_neg c110, if_pos c121]; done) | contradiction) hW hS (lv_sub hl [0, 1, 2, 3, 4, 5, 6] rfl)
          · refine lv_aload_n hx hb dX11_line_125 rfl (lv_at hl 0 rfl) ?_
            refine va_get (D := eD E) (cl := vwCl) (tys := eT E) (ci := 10) (C := RX11) (T := TX11) (N := 23) (v := .long (Z.2 0 14)) hx hb hts hinX11 hown hE.1 hW.1 0 rfl rfl 14 (by decide) (hts (.fieldLink RX11 189 "DialGardenModel" "endX" "J") (by decide +kernel)) (fun _ h9 => h9) rfl dX11_line_126 ?_
            refine lv_goto (tgt := 136) hx hb dX11_line_129 (by decide) ?_
            exact J136 _ _ _ _ _ _ _ (by first | exact hi | exact ⟨⟨hi.1.1, by show (M73.1 0 6).toInt ≤ 366; rw [eM73, stn_I]; exact hi.1.2⟩, hi.2, c62⟩) (by rw [hq]; first | (simp only [q_X11_line_b97, if_neg c110, if_neg c121]; done) | contradiction) hW hS (lv_sub hl [0, 1, 2, 3, 4, 5, 6] rfl)
      refine lv_iload hx hb dX11_line_57 (lv_at hl 6 rfl) ?_
      refine lv_sipush (v := 366) hx hb dX11_line_59 (by decide) ?_
      refine lv_icmp_ge (tgt := 245) hx hb dX11_line_62 (by decide) (fun c62 => ?_) (fun c62 => ?_)
      · refine lv_iload_n hx hb dX11_line_245 rfl (lv_at hl 3 rfl) ?_
        refine lv_if_ne (tgt := 254) hx hb dX11_line_246 (by decide) (fun c246 => ?_) (fun c246 => ?_)
        · refine lv_iload hx hb dX11_line_254 (lv_at hl 4 rfl) ?_
          refine lv_if_ne (tgt := 264) hx hb dX11_line_256 (by decide) (fun c256 => ?_) (fun c256 => ?_)
          · refine lv_aload hx hb dX11_line_264 (lv_at hl 5 rfl) ?_
            refine lv_iload_n hx hb dX11_line_266 rfl (lv_at hl 3 rfl) ?_
            refine va_lald (D := eD E) (cl := vwCl) (tys := eT E) (f := Z.2 7) hx hb hE.1 hW.1 7 1 rfl rfl (vx hi.2.2.1 hi.2.2.2) dX11_line_267 ?_
            refine lv_l2i (v := (Z.2 7 (p3.toNatClampNeg)).toInt32) hx hb dX11_line_268 rfl ?_
            exact W.iret (v := (Z.2 7 (p3.toNatClampNeg)).toInt32) hx hb hr (fun t ht _ => ⟨⟨(Z.2 7 (p3.toNatClampNeg)).toInt32, Z, rfl, by rw [hq]; first | (simp only [q_X11_line_b57, if_pos c62, if_neg c246, if_neg c256]; done) | contradiction, by dsimp only; rw [ht]; exact hW⟩, hS.F ht⟩) hS.2.2 dX11_line_269
          · refine lv_ldc hx hb (v := (-2000000005)) hown (hts (.constant RX11 172 (-2000000005)) (by decide +kernel)) dX11_line_259 ?_
            refine lv_goto (tgt := 269) hx hb dX11_line_261 (by decide) ?_
            exact W.iret (v := (-2000000005)) hx hb hr (fun t ht _ => ⟨⟨(-2000000005), Z, rfl, by rw [hq]; first | (simp only [q_X11_line_b57, if_pos c62, if_neg c246, if_pos c256]; done) | contradiction, by dsimp only; rw [ht]; exact hW⟩, hS.F ht⟩) hS.2.2 dX11_line_269
        · refine lv_iload hx hb dX11_line_249 (lv_at hl 4 rfl) ?_
          refine lv_goto (tgt := 269) hx hb dX11_line_251 (by decide) ?_
          exact W.iret (v := v4) hx hb hr (fun t ht _ => ⟨⟨v4, Z, rfl, by rw [hq]; first | (simp only [q_X11_line_b57, if_pos c62, if_pos c246]; done) | contradiction, by dsimp only; rw [ht]; exact hW⟩, hS.F ht⟩) hS.2.2 dX11_line_269
      · refine lv_aload_n hx hb dX11_line_65 rfl (lv_at hl 0 rfl) ?_
        refine lv_iload_n hx hb dX11_line_66 rfl (lv_at hl 1 rfl) ?_
        refine lv_iload hx hb dX11_line_67 (lv_at hl 6 rfl) ?_
        refine lv_bipush (v := 60) hx hb dX11_line_69 (by decide) ?_
        refine lv_iload_n hx hb dX11_line_71 rfl (lv_at hl 2 rfl) ?_
        refine lv_imul hx hb dX11_line_72 ?_
        refine va_calli (va_runV (As := [.int (p1), .int (v6), .int (60 * p2)]) (rest := []) ⟨hx, hb, hml, hown, hts⟩ (c_X11_stateNow l E Z S p1 v6 (60 * p2) hi.2.1 hi.1.1.1 hi.1.2) (cwV 3 hts gX11_line_X11_stateNow rfl rfl rfl (by decide +kernel) ⟨Nat.le_of_ble_eq_true rfl, Nat.le_of_ble_eq_true rfl⟩) (gP.V (ci := 10) (q := (RX11, TX11, 23)) (q0 := 0) hE hS hW rfl rfl) rfl rfl hl.1 rfl (lv_room (Nat.le_of_ble_eq_true rfl)) dX11_line_73 ⟨Nat.le_of_ble_eq_true rfl, Nat.le_of_ble_eq_true rfl⟩) hS (fun _ _ h => h) (fun _ h => h) (fun r73 M73 t H locs ht hvm hw hB hz1 hk1 hS => ?_)
        obtain ⟨er73, eM73⟩ := prj hw
        clear hw
        have hW : gW E M73 S H := by rw [← ht]; exact hB
        refine lv_if_ne (tgt := 239) hx hb dX11_line_76 (by decide) (fun c76 => ?_) (fun c76 => ?_)
        · obtain ⟨x239, ex239⟩ : ∃ y : Int32, y = v6 + 1 := ⟨_, rfl⟩
          refine lv_iinc (v := x239) (lv' := [(6, .int (x239)), (0, .ref (eM E 0)), (1, .int (p1)), (2, .int (p2)), (3, .int (p3)), (4, .int (v4)), (5, .ref (eM E 7))]) hx hb dX11_line_239 hl (k := 6) rfl (by rw [ex239]; rfl) (by decide) rfl (fun ls hl => ?_)
          refine lv_goto (tgt := 57) hx hb dX11_line_242 (by decide) ?_
          exact ih _ _ _ _ _ _ (by first | exact ⟨⟨hi.1.1.st c62 (by decide) ex239, by show (M73.1 0 6).toInt ≤ 366; rw [eM73, stn_I]; exact hi.1.2⟩, hi.2⟩ | exact ⟨⟨hi.1.1.st hi.2.2 (by decide) ex239, hi.1.2⟩, hi.2.1⟩) (by rw [hq]; subst ex239; subst eM73; subst er73; first | (simp only [q_X11_line_b57, if_neg c62, if_neg c76]; done) | contradiction) hW hS (lv_sub hl [1, 2, 3, 4, 5, 6, 0] rfl)
        · refine lv_aload hx hb dX11_line_79 (lv_at hl 5 rfl) ?_
          refine lv_iconst (v := 1) hx hb dX11_line_81 (by decide) ?_
          refine lv_iload hx hb dX11_line_82 (lv_at hl 4 rfl) ?_
          refine lv_if_ne (tgt := 93) hx hb dX11_line_84 (by decide) (fun c84 => ?_) (fun c84 => ?_)
          · refine lv_aload hx hb dX11_line_93 (lv_at hl 5 rfl) ?_
            refine lv_iconst (v := 1) hx hb dX11_line_95 (by decide) ?_
            refine va_lald (D := eD E) (cl := vwCl) (tys := eT E) (f := M73.2 7) hx hb hE.1 hW.1 7 1 rfl rfl (vp_in_nI (n := 1) (by decide) (by decide)) dX11_line_96 ?_
            exact J97 _ _ _ _ _ _ _ (by first | exact hi | exact ⟨⟨hi.1.1, by show (M73.1 0 6).toInt ≤ 366; rw [eM73, stn_I]; exact hi.1.2⟩, hi.2, c62⟩) (by rw [hq]; subst eM73; subst er73; first | (simp only [q_X11_line_b57, if_neg c62, if_pos c76, if_neg c84]; done) | contradiction) hW hS (lv_sub hl [0, 1, 2, 3, 4, 5, 6] rfl)
          · refine lv_iload hx hb dX11_line_87 (lv_at hl 6 rfl) ?_
            refine lv_i2l (v := v6.toInt64) hx hb dX11_line_89 rfl ?_
            refine lv_goto (tgt := 97) hx hb dX11_line_90 (by decide) ?_
            exact J97 _ _ _ _ _ _ _ (by first | exact hi | exact ⟨⟨hi.1.1, by show (M73.1 0 6).toInt ≤ 366; rw [eM73, stn_I]; exact hi.1.2⟩, hi.2, c62⟩) (by rw [hq]; subst eM73; subst er73; first | (simp only [q_X11_line_b57, if_neg c62, if_pos c76, if_pos c84]; done) | contradiction) hW hS (lv_sub hl [0, 1, 2, 3, 4, 5, 6] rfl)
  refine lv_iload_n hx hb dX11_line_0 rfl (lv_at hl 1 rfl) ?_
  refine k_Si (va_runS (As := [.int (p1)]) (rest := []) ⟨hx, hb, hml, hown, hts⟩ (c_X11_isPlace l p1) (va_cwS 1 hts gX11_line_X11_isPlace rfl rfl rfl (by decide +kernel) ⟨Nat.le_of_ble_eq_true rfl, Nat.le_of_ble_eq_true rfl⟩) gP0 rfl rfl hl.1 rfl (lv_room (Nat.le_of_ble_eq_true rfl)) dX11_line_1 ⟨Nat.le_of_ble_eq_true rfl, Nat.le_of_ble_eq_true rfl⟩) (fun r1 er1 => ?_)
  refine lv_if_eq (tgt := 31) hx hb dX11_line_4 (by decide) (fun c4 => ?_) (fun c4 => ?_)
  · refine lv_ldc hx hb (v := (-2000000001)) hown (hts (.constant RX11 73 (-2000000001)) (by decide +kernel)) dX11_line_31 ?_
    exact W.iret (v := (-2000000001)) hx hb hr (fun t ht _ => ⟨⟨(-2000000001), M, rfl, by subst er1; first | (simp only [q_X11_line, if_pos c4]; done) | contradiction, by dsimp only; rw [ht]; exact hW⟩, hS.F ht⟩) hS.2.2 dX11_line_33
  · refine lv_iload_n hx hb dX11_line_7 rfl (lv_at hl 2 rfl) ?_
    refine lv_i2l (v := p2.toInt64) hx hb dX11_line_8 rfl ?_
    refine lv_lconst (v := 0) hx hb dX11_line_9 (by decide) ?_
    refine lv_ldc2 hx hb (v := 23) hown (hts (.constantLong RX11 170 (23)) (by decide +kernel)) dX11_line_10 ?_
    refine k_Si (va_runS (As := [.long (p2.toInt64), .long (0), .long (23)]) (rest := []) ⟨hx, hb, hml, hown, hts⟩ (c_X11_isIn l (p2.toInt64) 0 23) (va_cwS 3 hts gX11_line_X11_isIn rfl rfl rfl (by decide +kernel) ⟨Nat.le_of_ble_eq_true rfl, Nat.le_of_ble_eq_true rfl⟩) gP0 rfl rfl hl.1 rfl (lv_room (Nat.le_of_ble_eq_true rfl)) dX11_line_13 ⟨Nat.le_of_ble_eq_true rfl, Nat.le_of_ble_eq_true rfl⟩) (fun r13 er13 => ?_)
    refine lv_if_eq (tgt := 31) hx hb dX11_line_16 (by decide) (fun c16 => ?_) (fun c16 => ?_)
    · refine lv_ldc hx hb (v := (-2000000001)) hown (hts (.constant RX11 73 (-2000000001)) (by decide +kernel)) dX11_line_31 ?_
      exact W.iret (v := (-2000000001)) hx hb hr (fun t ht _ => ⟨⟨(-2000000001), M, rfl, by subst er13; subst er1; first | (simp only [q_X11_line, if_neg c4, if_pos c16]; done) | contradiction, by dsimp only; rw [ht]; exact hW⟩, hS.F ht⟩) hS.2.2 dX11_line_33
    · refine lv_iload_n hx hb dX11_line_19 rfl (lv_at hl 3 rfl) ?_
      refine lv_i2l (v := p3.toInt64) hx hb dX11_line_20 rfl ?_
      refine lv_lconst (v := 0) hx hb dX11_line_21 (by decide) ?_
      refine lv_ldc2 hx hb (v := 6) hown (hts (.constantLong RX11 221 (6)) (by decide +kernel)) dX11_line_22 ?_
      refine k_Si (va_runS (As := [.long (p3.toInt64), .long (0), .long (6)]) (rest := []) ⟨hx, hb, hml, hown, hts⟩ (c_X11_isIn l (p3.toInt64) 0 6) (va_cwS 3 hts gX11_line_X11_isIn rfl rfl rfl (by decide +kernel) ⟨Nat.le_of_ble_eq_true rfl, Nat.le_of_ble_eq_true rfl⟩) gP0 rfl rfl hl.1 rfl (lv_room (Nat.le_of_ble_eq_true rfl)) dX11_line_25 ⟨Nat.le_of_ble_eq_true rfl, Nat.le_of_ble_eq_true rfl⟩) (fun r25 er25 => ?_)
      refine lv_if_ne (tgt := 34) hx hb dX11_line_28 (by decide) (fun c28 => ?_) (fun c28 => ?_)
      · refine lv_aload_n hx hb dX11_line_34 rfl (lv_at hl 0 rfl) ?_
        refine lv_iload_n hx hb dX11_line_35 rfl (lv_at hl 1 rfl) ?_
        refine k_Si (va_runV (As := [.int (p1)]) (rest := []) ⟨hx, hb, hml, hown, hts⟩ (c_X11_isDial l E M S p1 (isPm_of er1 c4)) (cwV 1 hts gX11_line_X11_isDial rfl rfl rfl (by decide +kernel) ⟨Nat.le_of_ble_eq_true rfl, Nat.le_of_ble_eq_true rfl⟩) (gP.V (ci := 10) (q := (RX11, TX11, 23)) (q0 := 0) hE hS hW rfl rfl) rfl rfl hl.1 rfl (lv_room (Nat.le_of_ble_eq_true rfl)) dX11_line_36 ⟨Nat.le_of_ble_eq_true rfl, Nat.le_of_ble_eq_true rfl⟩) (fun r36 er36 => ?_)
        refine lv_if_ne (tgt := 45) hx hb dX11_line_39 (by decide) (fun c39 => ?_) (fun c39 => ?_)
        · refine lv_iconst (v := 0) hx hb dX11_line_45 (by decide) ?_
          refine lv_istore (lv' := [(4, .int (0)), (0, .ref (eM E 0)), (1, .int (p1)), (2, .int (p2)), (3, .int (p3))]) hx hb dX11_line_46 hl (by decide) rfl (fun ls hl => ?_)
          refine lv_aload_n hx hb dX11_line_48 rfl (lv_at hl 1 rfl) ?_
          refine va_get (D := eD E) (cl := vwCl) (tys := eT E) (ci := 10) (C := RX11) (T := TX11) (N := 23) (v := .ref (eM E 7)) hx hb hts hinX11 hown hE.1 hW.1 0 rfl rfl 16 (by decide) (hts (.fieldLink RX11 32 "DialGardenModel" "found" "[J") (by decide +kernel)) (fun _ h9 => h9) rfl dX11_line_49 ?_
          refine lv_astore (lv' := [(5, .ref (eM E 7)), (4, .int (0)), (0, .ref (eM E 0)), (1, .int (p1)), (2, .int (p2)), (3, .int (p3))]) hx hb dX11_line_52 hl (by decide) rfl (fun ls hl => ?_)
          refine lv_iconst (v := 0) hx hb dX11_line_54 (by decide) ?_
          refine lv_istore (lv' := [(6, .int (0)), (5, .ref (eM E 7)), (4, .int (0)), (0, .ref (eM E 0)), (1, .int (p1)), (2, .int (p2)), (3, .int (p3))]) hx hb dX11_line_55 hl (by decide) rfl (fun ls hl => ?_)
          exact L57 367 _ _ _ _ _ _ (by exact ⟨⟨gL.i 366, hc⟩, isPm_of er1 c4, ln_in er25 c28⟩) (by subst er36; subst er25; subst er13; subst er1; first | (simp only [q_X11_line, if_neg c4, if_neg c16, if_neg c28, if_neg c39]; done) | contradiction) hW hS (lv_sub hl [3, 4, 5, 6, 2, 1, 0] rfl)
        · refine lv_ldc hx hb (v := (-2000000002)) hown (hts (.constant RX11 141 (-2000000002)) (by decide +kernel)) dX11_line_42 ?_
          exact W.iret (v := (-2000000002)) hx hb hr (fun t ht _ => ⟨⟨(-2000000002), M, rfl, by subst er36; subst er25; subst er13; subst er1; first | (simp only [q_X11_line, if_neg c4, if_neg c16, if_neg c28, if_pos c39]; done) | contradiction, by dsimp only; rw [ht]; exact hW⟩, hS.F ht⟩) hS.2.2 dX11_line_44
      · refine lv_ldc hx hb (v := (-2000000001)) hown (hts (.constant RX11 73 (-2000000001)) (by decide +kernel)) dX11_line_31 ?_
        exact W.iret (v := (-2000000001)) hx hb hr (fun t ht _ => ⟨⟨(-2000000001), M, rfl, by subst er25; subst er13; subst er1; first | (simp only [q_X11_line, if_neg c4, if_neg c16, if_pos c28]; done) | contradiction, by dsimp only; rw [ht]; exact hW⟩, hS.F ht⟩) hS.2.2 dX11_line_33
