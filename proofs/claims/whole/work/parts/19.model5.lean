def q_X11_findMarks_b2 (M : gSm) (p1 : Int32) (p2 : Int32) : Nat → Int32 → gSm → gSm
  | 0, v3, Z => Z
  | n + 1, v3, Z => (if 24 ≤ v3 then Z else (let r17 := q_X11_get Z p1 6; (if ((r17 >>> (v3 &&& 31)) &&& 1) = 1 then (let r35 := (q_X11_stateNow Z p1 p2 (60 * v3)).1; let M35 := (q_X11_stateNow Z p1 p2 (60 * v3)).2; (if r35 = 0 then (let x67 := v3 + 1; q_X11_findMarks_b2 M p1 p2 n x67 (pJ (pJ (pM M35 10 (v3.toNatClampNeg) (vp_nar .boolean 1)) 8 (v3.toNatClampNeg) (M35.2 0 14)) 9 (v3.toNatClampNeg) (M35.2 0 15))) else (let x67 := v3 + 1; q_X11_findMarks_b2 M p1 p2 n x67 (pJ (pJ (pM M35 10 (v3.toNatClampNeg) (vp_nar .boolean 0)) 8 (v3.toNatClampNeg) (M35.2 0 14)) 9 (v3.toNatClampNeg) (M35.2 0 15))))) else (let x67 := v3 + 1; q_X11_findMarks_b2 M p1 p2 n x67 (pJ (pJ (pM Z 10 (v3.toNatClampNeg) (vp_nar .boolean 0)) 8 (v3.toNatClampNeg) (Z.2 0 14)) 9 (v3.toNatClampNeg) (Z.2 0 15))))))
def q_X11_findMarks (M : gSm) (p1 : Int32) (p2 : Int32) : gSm := q_X11_findMarks_b2 M p1 p2 25 0 M
set_option maxHeartbeats 4000000 in
set_option maxRecDepth 100000 in
theorem c_X11_findMarks (l : Launch) (E : gEE) (M : gSm) (S : gSc) (p1 : Int32) (p2 : Int32) (hp : isP p1) (hd : 0 ≤ p2.toInt) (hc : (M.1 0 6).toInt ≤ 366) : Met l yX11_findMarks wsX11_findMarks ({ frames := 6, cells := 0, slots := 0, locals := 156 }) (va_Pc [.ref (eM E 0), .int (p1), .int (p2)] (gP E M S)) (va_Qv (fun u : gSm => u = q_X11_findMarks M p1 p2) (fun u t => gW E u S t.heap) (eA E)) 0 0 (eA E) := by
  refine Met.ofW (cc := cX11_findMarks) (maxL := 4) (ret := none) (by decide) rfl ?_
  intro p e s m args below meth c s₁ B hml hv
  obtain ⟨rfl, hE, hW⟩ := hv
  have hx := B.exec
  have hb := B.bytes
  have hr := B.returns
  have hts := atoms_spec (ws := wsX11_findMarks) B.pre
  have hown : s.vm.findClass RX11 = some m.cls := findClass_of_methodNamed B.named
  have hlocks := B.notSynchronized
  have hinX11 : ∀ w ∈ wsX110, w ∈ wsX11_findMarks := by decide +kernel
  have hS : va_S (eA E) s.heap s.heap [] := va_S.rf
  have hl := lv_entry ([.ref (eM E 0), .int (p1), .int (p2)]) (n := 4) (Nat.le_of_ble_eq_true rfl)
  rw [lg_entry_eq]
  generalize (lg_sl ([.ref (eM E 0), .int (p1), .int (p2)]) ++ List.replicate (4 - (lg_sl ([.ref (eM E 0), .int (p1), .int (p2)])).length) Slot.unset).toArray = ls at hl ⊢
  have hl : lv_has ls 4 [(0, .ref (eM E 0)), (1, .int (p1)), (2, .int (p2))] := hl
  have hS : ∃ (H : Heap) (locs : List Loc), H = s.heap ∧ locs = [] ∧ gW E M S H ∧ va_S (eA E) s.heap H locs := ⟨_, _, rfl, rfl, hW, hS⟩
  clear hW
  obtain ⟨H, locs, eH, el, hW, hS⟩ := hS
  rw [← eH, ← el]
  clear eH el
  have L2 : ∀ n : Nat, ∀ (v3 : Int32) (Z : gSm) (H : Heap) (locs : List Loc) (ls : Array Slot), (gL 24 n v3 ∧ (Z.1 0 6).toInt ≤ 366) → q_X11_findMarks M p1 p2 = q_X11_findMarks_b2 M p1 p2 n v3 Z → gW E Z S H → va_S (eA E) s.heap H locs → lv_has ls 4 [(0, .ref (eM E 0)), (1, .int (p1)), (2, .int (p2)), (3, .int (v3))] → W p l e (headSpec wsX11_findMarks ({ frames := 6, cells := 0, slots := 0, locals := 156 })).room s m ([.ref (eM E 0), .int (p1), .int (p2)] : List Value).toArray below meth c H locs 0 0 (MQ below (va_Qv (fun u : gSm => u = q_X11_findMarks M p1 p2) (fun u t => gW E u S t.heap) (eA E)) ([.ref (eM E 0), .int (p1), .int (p2)] : List Value).toArray s 0 0 (eA E)) (F0 m 2 ls []) := by
    intro n
    induction n with
    | zero =>
      intro v3 Z H locs ls hi hq hW hS hl
      exact hi.1.z
    | succ n ih =>
      intro v3 Z H locs ls hi hq hW hS hl
      refine lv_iload_n hx hb dX11_findMarks_2 rfl (lv_at hl 3 rfl) ?_
      refine lv_bipush (v := 24) hx hb dX11_findMarks_3 (by decide) ?_
      refine lv_icmp_ge (tgt := 73) hx hb dX11_findMarks_5 (by decide) (fun c5 => ?_) (fun c5 => ?_)
      · exact W.vret hx hb hr (fun t ht _ => ⟨⟨Z, rfl, by rw [hq]; first | (simp only [q_X11_findMarks_b2, if_pos c5]; done) | contradiction, by dsimp only; rw [ht]; exact hW⟩, hS.F ht⟩) hS.2.2 dX11_findMarks_73
      · refine lv_aload_n hx hb dX11_findMarks_8 rfl (lv_at hl 0 rfl) ?_
        refine va_get (D := eD E) (cl := vwCl) (tys := eT E) (ci := 10) (C := RX11) (T := TX11) (N := 23) (v := .ref (eM E 10)) hx hb hts hinX11 hown hE.1 hW.1 0 rfl rfl 19 (by decide) (hts (.fieldLink RX11 42 "DialGardenModel" "isMark" "[Z") (by decide +kernel)) (fun _ h9 => h9) rfl dX11_findMarks_9 ?_
        refine lv_iload_n hx hb dX11_findMarks_12 rfl (lv_at hl 3 rfl) ?_
        refine lv_aload_n hx hb dX11_findMarks_13 rfl (lv_at hl 0 rfl) ?_
        refine lv_iload_n hx hb dX11_findMarks_14 rfl (lv_at hl 1 rfl) ?_
        refine lv_bipush (v := 6) hx hb dX11_findMarks_15 (by decide) ?_
        refine k_Si (va_runV (As := [.int (p1), .int (6)]) (rest := [.int (v3), .ref (eM E 10)]) ⟨hx, hb, hml, hown, hts⟩ (c_X11_get l E Z S p1 6 (gx hp (by decide))) (cwV 2 hts gX11_findMarks_X11_get rfl rfl rfl (by decide +kernel) ⟨Nat.le_of_ble_eq_true rfl, Nat.le_of_ble_eq_true rfl⟩) (gP.V (ci := 10) (q := (RX11, TX11, 23)) (q0 := 0) hE hS hW rfl rfl) rfl rfl hl.1 rfl (lv_room (Nat.le_of_ble_eq_true rfl)) dX11_findMarks_17 ⟨Nat.le_of_ble_eq_true rfl, Nat.le_of_ble_eq_true rfl⟩) (fun r17 er17 => ?_)
        refine lv_iload_n hx hb dX11_findMarks_20 rfl (lv_at hl 3 rfl) ?_
        refine lv_ishr hx hb dX11_findMarks_21 ?_
        refine lv_iconst (v := 1) hx hb dX11_findMarks_22 (by decide) ?_
        refine lv_iand hx hb dX11_findMarks_23 ?_
        refine lv_iconst (v := 1) hx hb dX11_findMarks_24 (by decide) ?_
        refine lv_icmp_ne (tgt := 45) hx hb dX11_findMarks_25 (by decide) (fun c25 => ?_) (fun c25 => ?_)
        · refine lv_iconst (v := 0) hx hb dX11_findMarks_45 (by decide) ?_
          refine va_zast (D := eD E) (cl := vwCl) (tys := eT E) (A := eA E) (f := Z.1 10) (x := 0) hx hb hE.1 hW.1 hW.2 hS 10 2 rfl rfl (vx (hi.1.lt c5 (by decide)).1 (hi.1.lt c5 (by decide)).2) dX11_findMarks_46 (fun H locs hP hD hS => ?_)
          have hW : gW E (pM Z 10 (v3.toNatClampNeg) (vp_nar .boolean 0)) S H := gW.of (tM_I10 E Z S (upd (Z.1 10) (v3.toNatClampNeg) (vp_nar .boolean 0))) hP hD
          refine lv_aload_n hx hb dX11_findMarks_47 rfl (lv_at hl 0 rfl) ?_
          refine va_get (D := eD E) (cl := vwCl) (tys := eT E) (ci := 10) (C := RX11) (T := TX11) (N := 23) (v := .ref (eM E 8)) hx hb hts hinX11 hown hE.1 hW.1 0 rfl rfl 17 (by decide) (hts (.fieldLink RX11 36 "DialGardenModel" "markX" "[J") (by decide +kernel)) (fun _ h9 => h9) rfl dX11_findMarks_48 ?_
          refine lv_iload_n hx hb dX11_findMarks_51 rfl (lv_at hl 3 rfl) ?_
          refine lv_aload_n hx hb dX11_findMarks_52 rfl (lv_at hl 0 rfl) ?_
          refine va_get (D := eD E) (cl := vwCl) (tys := eT E) (ci := 10) (C := RX11) (T := TX11) (N := 23) (v := .long (Z.2 0 14)) hx hb hts hinX11 hown hE.1 hW.1 0 rfl rfl 14 (by decide) (hts (.fieldLink RX11 189 "DialGardenModel" "endX" "J") (by decide +kernel)) (fun _ h9 => h9) rfl dX11_findMarks_53 ?_
          refine va_last (D := eD E) (cl := vwCl) (tys := eT E) (A := eA E) (f := Z.2 8) (x := Z.2 0 14) hx hb hE.1 hW.1 hW.2 hS 8 1 rfl rfl (vx (hi.1.lt c5 (by decide)).1 (hi.1.lt c5 (by decide)).2) dX11_findMarks_56 (fun H locs hP hD hS => ?_)
          have hW : gW E (pJ (pM Z 10 (v3.toNatClampNeg) (vp_nar .boolean 0)) 8 (v3.toNatClampNeg) (Z.2 0 14)) S H := gW.of (tM_J8 E (pM Z 10 (v3.toNatClampNeg) (vp_nar .boolean 0)) S (vp_updL (Z.2 8) (v3.toNatClampNeg) (Z.2 0 14))) hP hD
          refine lv_aload_n hx hb dX11_findMarks_57 rfl (lv_at hl 0 rfl) ?_
          refine va_get (D := eD E) (cl := vwCl) (tys := eT E) (ci := 10) (C := RX11) (T := TX11) (N := 23) (v := .ref (eM E 9)) hx hb hts hinX11 hown hE.1 hW.1 0 rfl rfl 18 (by decide) (hts (.fieldLink RX11 39 "DialGardenModel" "markY" "[J") (by decide +kernel)) (fun _ h9 => h9) rfl dX11_findMarks_58 ?_
          refine lv_iload_n hx hb dX11_findMarks_61 rfl (lv_at hl 3 rfl) ?_
          refine lv_aload_n hx hb dX11_findMarks_62 rfl (lv_at hl 0 rfl) ?_
          refine va_get (D := eD E) (cl := vwCl) (tys := eT E) (ci := 10) (C := RX11) (T := TX11) (N := 23) (v := .long (Z.2 0 15)) hx hb hts hinX11 hown hE.1 hW.1 0 rfl rfl 15 (by decide) (hts (.fieldLink RX11 192 "DialGardenModel" "endY" "J") (by decide +kernel)) (fun _ h9 => h9) rfl dX11_findMarks_63 ?_
          refine va_last (D := eD E) (cl := vwCl) (tys := eT E) (A := eA E) (f := Z.2 9) (x := Z.2 0 15) hx hb hE.1 hW.1 hW.2 hS 9 1 rfl rfl (vx (hi.1.lt c5 (by decide)).1 (hi.1.lt c5 (by decide)).2) dX11_findMarks_66 (fun H locs hP hD hS => ?_)
          have hW : gW E (pJ (pJ (pM Z 10 (v3.toNatClampNeg) (vp_nar .boolean 0)) 8 (v3.toNatClampNeg) (Z.2 0 14)) 9 (v3.toNatClampNeg) (Z.2 0 15)) S H := gW.of (tM_J9 E (pJ (pM Z 10 (v3.toNatClampNeg) (vp_nar .boolean 0)) 8 (v3.toNatClampNeg) (Z.2 0 14)) S (vp_updL (Z.2 9) (v3.toNatClampNeg) (Z.2 0 15))) hP hD
          obtain ⟨x67, ex67⟩ : ∃ y : Int32, y = v3 + 1 := ⟨_, rfl⟩
          refine lv_iinc (v := x67) (lv' := [(3, .int (x67)), (0, .ref (eM E 0)), (1, .int (p1)), (2, .int (p2))]) hx hb dX11_findMarks_67 hl (k := 3) rfl (by rw [ex67]; rfl) (by decide) rfl (fun ls hl => ?_)
          refine lv_goto (tgt := 2) hx hb dX11_findMarks_70 (by decide) ?_
          exact ih _ _ _ _ _ (by first | exact ⟨hi.1.st c5 (by decide) ex67, hi.2⟩ | exact ⟨hi.1.st c5 (by decide) ex67, by show (M35.1 0 6).toInt ≤ 366; rw [eM35, stn_I]; exact hi.2⟩) (by rw [hq]; subst ex67; subst er17; first | (simp only [q_X11_findMarks_b2, if_neg c5, if_neg c25]; done) | contradiction) hW hS (lv_sub hl [1, 2, 3, 0] rfl)
        · refine lv_aload_n hx hb dX11_findMarks_28 rfl (lv_at hl 0 rfl) ?_
          refine lv_iload_n hx hb dX11_findMarks_29 rfl (lv_at hl 1 rfl) ?_
          refine lv_iload_n hx hb dX11_findMarks_30 rfl (lv_at hl 2 rfl) ?_
          refine lv_bipush (v := 60) hx hb dX11_findMarks_31 (by decide) ?_
          refine lv_iload_n hx hb dX11_findMarks_33 rfl (lv_at hl 3 rfl) ?_
          refine lv_imul hx hb dX11_findMarks_34 ?_
          refine va_calli (va_runV (As := [.int (p1), .int (p2), .int (60 * v3)]) (rest := [.int (v3), .ref (eM E 10)]) ⟨hx, hb, hml, hown, hts⟩ (c_X11_stateNow l E Z S p1 p2 (60 * v3) hp hd hi.2) (cwV 3 hts gX11_findMarks_X11_stateNow rfl rfl rfl (by decide +kernel) ⟨Nat.le_of_ble_eq_true rfl, Nat.le_of_ble_eq_true rfl⟩) (gP.V (ci := 10) (q := (RX11, TX11, 23)) (q0 := 0) hE hS hW rfl rfl) rfl rfl hl.1 rfl (lv_room (Nat.le_of_ble_eq_true rfl)) dX11_findMarks_35 ⟨Nat.le_of_ble_eq_true rfl, Nat.le_of_ble_eq_true rfl⟩) hS (fun _ _ h => h) (fun _ h => h) (fun r35 M35 t H locs ht hvm hw hB hz1 hk1 hS => ?_)
          obtain ⟨er35, eM35⟩ := prj hw
          clear hw
          have hW : gW E M35 S H := by rw [← ht]; exact hB
          refine lv_if_ne (tgt := 45) hx hb dX11_findMarks_38 (by decide) (fun c38 => ?_) (fun c38 => ?_)
          · refine lv_iconst (v := 0) hx hb dX11_findMarks_45 (by decide) ?_
            refine va_zast (D := eD E) (cl := vwCl) (tys := eT E) (A := eA E) (f := M35.1 10) (x := 0) hx hb hE.1 hW.1 hW.2 hS 10 2 rfl rfl (vx (hi.1.lt c5 (by decide)).1 (hi.1.lt c5 (by decide)).2) dX11_findMarks_46 (fun H locs hP hD hS => ?_)
            have hW : gW E (pM M35 10 (v3.toNatClampNeg) (vp_nar .boolean 0)) S H := gW.of (tM_I10 E M35 S (upd (M35.1 10) (v3.toNatClampNeg) (vp_nar .boolean 0))) hP hD
            refine lv_aload_n hx hb dX11_findMarks_47 rfl (lv_at hl 0 rfl) ?_
            refine va_get (D := eD E) (cl := vwCl) (tys := eT E) (ci := 10) (C := RX11) (T := TX11) (N := 23) (v := .ref (eM E 8)) hx hb hts hinX11 hown hE.1 hW.1 0 rfl rfl 17 (by decide) (hts (.fieldLink RX11 36 "DialGardenModel" "markX" "[J") (by decide +kernel)) (fun _ h9 => h9) rfl dX11_findMarks_48 ?_
            refine lv_iload_n hx hb dX11_findMarks_51 rfl (lv_at hl 3 rfl) ?_
            refine lv_aload_n hx hb dX11_findMarks_52 rfl (lv_at hl 0 rfl) ?_
            refine va_get (D := eD E) (cl := vwCl) (tys := eT E) (ci := 10) (C := RX11) (T := TX11) (N := 23) (v := .long (M35.2 0 14)) hx hb hts hinX11 hown hE.1 hW.1 0 rfl rfl 14 (by decide) (hts (.fieldLink RX11 189 "DialGardenModel" "endX" "J") (by decide +kernel)) (fun _ h9 => h9) rfl dX11_findMarks_53 ?_
            refine va_last (D := eD E) (cl := vwCl) (tys := eT E) (A := eA E) (f := M35.2 8) (x := M35.2 0 14) hx hb hE.1 hW.1 hW.2 hS 8 1 rfl rfl (vx (hi.1.lt c5 (by decide)).1 (hi.1.lt c5 (by decide)).2) dX11_findMarks_56 (fun H locs hP hD hS => ?_)
            have hW : gW E (pJ (pM M35 10 (v3.toNatClampNeg) (vp_nar .boolean 0)) 8 (v3.toNatClampNeg) (M35.2 0 14)) S H := gW.of (tM_J8 E (pM M35 10 (v3.toNatClampNeg) (vp_nar .boolean 0)) S (vp_updL (M35.2 8) (v3.toNatClampNeg) (M35.2 0 14))) hP hD
            refine lv_aload_n hx hb dX11_findMarks_57 rfl (lv_at hl 0 rfl) ?_
            refine va_get (D := eD E) (cl := vwCl) (tys := eT E) (ci := 10) (C := RX11) (T := TX11) (N := 23) (v := .ref (eM E 9)) hx hb hts hinX11 hown hE.1 hW.1 0 rfl rfl 18 (by decide) (hts (.fieldLink RX11 39 "DialGardenModel" "markY" "[J") (by decide +kernel)) (fun _ h9 => h9) rfl dX11_findMarks_58 ?_
            refine lv_iload_n hx hb dX11_findMarks_61 rfl (lv_at hl 3 rfl) ?_
            refine lv_aload_n hx hb dX11_findMarks_62 rfl (lv_at hl 0 rfl) ?_
            refine va_get (D := eD E) (cl := vwCl) (tys := eT E) (ci := 10) (C := RX11) (T := TX11) (N := 23) (v := .long (M35.2 0 15)) hx hb hts hinX11 hown hE.1 hW.1 0 rfl rfl 15 (by decide) (hts (.fieldLink RX11 192 "DialGardenModel" "endY" "J") (by decide +kernel)) (fun _ h9 => h9) rfl dX11_findMarks_63 ?_
            refine va_last (D := eD E) (cl := vwCl) (tys := eT E) (A := eA E) (f := M35.2 9) (x := M35.2 0 15) hx hb hE.1 hW.1 hW.2 hS 9 1 rfl rfl (vx (hi.1.lt c5 (by decide)).1 (hi.1.lt c5 (by decide)).2) dX11_findMarks_66 (fun H locs hP hD hS => ?_)
            have hW : gW E (pJ (pJ (pM M35 10 (v3.toNatClampNeg) (vp_nar .boolean 0)) 8 (v3.toNatClampNeg) (M35.2 0 14)) 9 (v3.toNatClampNeg) (M35.2 0 15)) S H := gW.of (tM_J9 E (pJ (pM M35 10 (v3.toNatClampNeg) (vp_nar .boolean 0)) 8 (v3.toNatClampNeg) (M35.2 0 14)) S (vp_updL (M35.2 9) (v3.toNatClampNeg) (M35.2 0 15))) hP hD
            obtain ⟨x67, ex67⟩ : ∃ y : Int32, y = v3 + 1 := ⟨_, rfl⟩
            refine lv_iinc (v := x67) (lv' := [(3, .int (x67)), (0, .ref (eM E 0)), (1, .int (p1)), (2, .int (p2))]) hx hb dX11_findMarks_67 hl (k := 3) rfl (by rw [ex67]; rfl) (by decide) rfl (fun ls hl => ?_)
            refine lv_goto (tgt := 2) hx hb dX11_findMarks_70 (by decide) ?_
            exact ih _ _ _ _ _ (by first | exact ⟨hi.1.st c5 (by decide) ex67, hi.2⟩ | exact ⟨hi.1.st c5 (by decide) ex67, by show (M35.1 0 6).toInt ≤ 366; rw [eM35, stn_I]; exact hi.2⟩) (by rw [hq]; subst ex67; subst eM35; subst er35; subst er17; first | (simp only [q_X11_findMarks_b2, if_neg c5, if_pos c25, if_neg c38]; done) | contradiction) hW hS (lv_sub hl [1, 2, 3, 0] rfl)
          · refine lv_iconst (v := 1) hx hb dX11_findMarks_41 (by decide) ?_
            refine lv_goto (tgt := 46) hx hb dX11_findMarks_42 (by decide) ?_
            refine va_zast (D := eD E) (cl := vwCl) (tys := eT E) (A := eA E) (f := M35.1 10) (x := 1) hx hb hE.1 hW.1 hW.2 hS 10 2 rfl rfl (vx (hi.1.lt c5 (by decide)).1 (hi.1.lt c5 (by decide)).2) dX11_findMarks_46 (fun H locs hP hD hS => ?_)
            have hW : gW E (pM M35 10 (v3.toNatClampNeg) (vp_nar .boolean 1)) S H := gW.of (tM_I10 E M35 S (upd (M35.1 10) (v3.toNatClampNeg) (vp_nar .boolean 1))) hP hD
            refine lv_aload_n hx hb dX11_findMarks_47 rfl (lv_at hl 0 rfl) ?_
            refine va_get (D := eD E) (cl := vwCl) (tys := eT E) (ci := 10) (C := RX11) (T := TX11) (N := 23) (v := .ref (eM E 8)) hx hb hts hinX11 hown hE.1 hW.1 0 rfl rfl 17 (by decide) (hts (.fieldLink RX11 36 "DialGardenModel" "markX" "[J") (by decide +kernel)) (fun _ h9 => h9) rfl dX11_findMarks_48 ?_
            refine lv_iload_n hx hb dX11_findMarks_51 rfl (lv_at hl 3 rfl) ?_
            refine lv_aload_n hx hb dX11_findMarks_52 rfl (lv_at hl 0 rfl) ?_
            refine va_get (D := eD E) (cl := vwCl) (tys := eT E) (ci := 10) (C := RX11) (T := TX11) (N := 23) (v := .long (M35.2 0 14)) hx hb hts hinX11 hown hE.1 hW.1 0 rfl rfl 14 (by decide) (hts (.fieldLink RX11 189 "DialGardenModel" "endX" "J") (by decide +kernel)) (fun _ h9 => h9) rfl dX11_findMarks_53 ?_
            refine va_last (D := eD E) (cl := vwCl) (tys := eT E) (A := eA E) (f := M35.2 8) (x := M35.2 0 14) hx hb hE.1 hW.1 hW.2 hS 8 1 rfl rfl (vx (hi.1.lt c5 (by decide)).1 (hi.1.lt c5 (by decide)).2) dX11_findMarks_56 (fun H locs hP hD hS => ?_)
            have hW : gW E (pJ (pM M35 10 (v3.toNatClampNeg) (vp_nar .boolean 1)) 8 (v3.toNatClampNeg) (M35.2 0 14)) S H := gW.of (tM_J8 E (pM M35 10 (v3.toNatClampNeg) (vp_nar .boolean 1)) S (vp_updL (M35.2 8) (v3.toNatClampNeg) (M35.2 0 14))) hP hD
            refine lv_aload_n hx hb dX11_findMarks_57 rfl (lv_at hl 0 rfl) ?_
            refine va_get (D := eD E) (cl := vwCl) (tys := eT E) (ci := 10) (C := RX11) (T := TX11) (N := 23) (v := .ref (eM E 9)) hx hb hts hinX11 hown hE.1 hW.1 0 rfl rfl 18 (by decide) (hts (.fieldLink RX11 39 "DialGardenModel" "markY" "[J") (by decide +kernel)) (fun _ h9 => h9) rfl dX11_findMarks_58 ?_
            refine lv_iload_n hx hb dX11_findMarks_61 rfl (lv_at hl 3 rfl) ?_
            refine lv_aload_n hx hb dX11_findMarks_62 rfl (lv_at hl 0 rfl) ?_
            refine va_get (D := eD E) (cl := vwCl) (tys := eT E) (ci := 10) (C := RX11) (T := TX11) (N := 23) (v := .long (M35.2 0 15)) hx hb hts hinX11 hown hE.1 hW.1 0 rfl rfl 15 (by decide) (hts (.fieldLink RX11 192 "DialGardenModel" "endY" "J") (by decide +kernel)) (fun _ h9 => h9) rfl dX11_findMarks_63 ?_
            refine va_last (D := eD E) (cl := vwCl) (tys := eT E) (A := eA E) (f := M35.2 9) (x := M35.2 0 15) hx hb hE.1 hW.1 hW.2 hS 9 1 rfl rfl (vx (hi.1.lt c5 (by decide)).1 (hi.1.lt c5 (by decide)).2) dX11_findMarks_66 (fun H locs hP hD hS => ?_)
            have hW : gW E (pJ (pJ (pM M35 10 (v3.toNatClampNeg) (vp_nar .boolean 1)) 8 (v3.toNatClampNeg) (M35.2 0 14)) 9 (v3.toNatClampNeg) (M35.2 0 15)) S H := gW.of (tM_J9 E (pJ (pM M35 10 (v3.toNatClampNeg) (vp_nar .boolean 1)) 8 (v3.toNatClampNeg) (M35.2 0 14)) S (vp_updL (M35.2 9) (v3.toNatClampNeg) (M35.2 0 15))) hP hD
            obtain ⟨x67, ex67⟩ : ∃ y : Int32, y = v3 + 1 := ⟨_, rfl⟩
            refine lv_iinc (v := x67) (lv' := [(3, .int (x67)), (0, .ref (eM E 0)), (1, .int (p1)), (2, .int (p2))]) hx hb dX11_findMarks_67 hl (k := 3) rfl (by rw [ex67]; rfl) (by decide) rfl (fun ls hl => ?_)
            refine lv_goto (tgt := 2) hx hb dX11_findMarks_70 (by decide) ?_
            exact ih _ _ _ _ _ (by first | exact ⟨hi.1.st c5 (by decide) ex67, hi.2⟩ | exact ⟨hi.1.st c5 (by decide) ex67, by show (M35.1 0 6).toInt ≤ 366; rw [eM35, stn_I]; exact hi.2⟩) (by rw [hq]; subst ex67; subst eM35; subst er35; subst er17; first | (simp only [q_X11_findMarks_b2, if_neg c5, if_pos c25, if_pos c38]; done) | contradiction) hW hS (lv_sub hl [1, 2, 3, 0] rfl)
  refine lv_iconst (v := 0) hx hb dX11_findMarks_0 (by decide) ?_
  refine lv_istore_n (lv' := [(3, .int (0)), (0, .ref (eM E 0)), (1, .int (p1)), (2, .int (p2))]) hx hb dX11_findMarks_1 rfl hl (by decide) rfl (fun ls hl => ?_)
  exact L2 25 _ _ _ _ _ (by exact ⟨gL.i 24, hc⟩) (by first | (simp only [q_X11_findMarks]; done) | contradiction) hW hS (lv_sub hl [1, 2, 3, 0] rfl)

def q_X11_lies (M : gSm) (p1 : Int32) (p2 : Int32) (p3 : Int64) (p4 : Int64) : Int32 × gSm := (let x13 := (M.2 8 (p2.toNatClampNeg)) - (M.2 8 (p1.toNatClampNeg)); (let x28 := (M.2 9 (p2.toNatClampNeg)) - (M.2 9 (p1.toNatClampNeg)); (let x41 := (x13 * x13) + (x28 * x28); (let x67 := ((p3 - (M.2 8 (p1.toNatClampNeg))) * x13) + ((p4 - (M.2 9 (p1.toNatClampNeg))) * x28); (if x67 < 0 then (0, M) else (if x67 < x41 then (1, pJ (pM (pM M 0 20 p1) 0 21 p2) 0 22 ((60 * (p1.toInt64)) + (((60 * ((p2 - p1).toInt64)) * x67) / x41))) else (0, M)))))))
set_option maxHeartbeats 4000000 in
set_option maxRecDepth 100000 in
theorem c_X11_lies (l : Launch) (E : gEE) (M : gSm) (S : gSc) (p1 : Int32) (p2 : Int32) (p3 : Int64) (p4 : Int64) (h1 : vp_in p1 24) (h2 : vp_in p2 24) : Met l yX11_lies wsX11_lies ({ frames := 0, cells := 0, slots := 0, locals := 0 }) (va_Pc [.ref (eM E 0), .int (p1), .int (p2), .long (p3), .long (p4)] (gP E M S)) (va_Qi (fun r (u : gSm) => (r, u) = q_X11_lies M p1 p2 p3 p4) (fun u t => gW E u S t.heap) (eA E)) 0 0 (eA E) := by
  refine Met.ofW (cc := cX11_lies) (maxL := 15) (ret := (some .boolean)) (by decide) rfl ?_
  intro p e s m args below meth c s₁ B hml hv
  obtain ⟨rfl, hE, hW⟩ := hv
  have hx := B.exec
  have hb := B.bytes
  have hr := B.returns
  have hts := atoms_spec (ws := wsX11_lies) B.pre
  have hown : s.vm.findClass RX11 = some m.cls := findClass_of_methodNamed B.named
  have hlocks := B.notSynchronized
  have hinX11 : ∀ w ∈ wsX110, w ∈ wsX11_lies := by decide +kernel
  have hS : va_S (eA E) s.heap s.heap [] := va_S.rf
  have hl := lv_entry ([.ref (eM E 0), .int (p1), .int (p2), .long (p3), .long (p4)]) (n := 15) (Nat.le_of_ble_eq_true rfl)
  rw [lg_entry_eq]
  generalize (lg_sl ([.ref (eM E 0), .int (p1), .int (p2), .long (p3), .long (p4)]) ++ List.replicate (15 - (lg_sl ([.ref (eM E 0), .int (p1), .int (p2), .long (p3), .long (p4)])).length) Slot.unset).toArray = ls at hl ⊢
  have hl : lv_has ls 15 [(0, .ref (eM E 0)), (1, .int (p1)), (2, .int (p2)), (3, .long (p3)), (5, .long (p4))] := hl
  have hS : ∃ (H : Heap) (locs : List Loc), H = s.heap ∧ locs = [] ∧ gW E M S H ∧ va_S (eA E) s.heap H locs := ⟨_, _, rfl, rfl, hW, hS⟩
  clear hW
  obtain ⟨H, locs, eH, el, hW, hS⟩ := hS
  rw [← eH, ← el]
  clear eH el
  refine lv_aload_n hx hb dX11_lies_0 rfl (lv_at hl 0 rfl) ?_
  refine va_get (D := eD E) (cl := vwCl) (tys := eT E) (ci := 10) (C := RX11) (T := TX11) (N := 23) (v := .ref (eM E 8)) hx hb hts hinX11 hown hE.1 hW.1 0 rfl rfl 17 (by decide) (hts (.fieldLink RX11 36 "DialGardenModel" "markX" "[J") (by decide +kernel)) (fun _ h9 => h9) rfl dX11_lies_1 ?_
  refine lv_iload_n hx hb dX11_lies_4 rfl (lv_at hl 2 rfl) ?_
  refine va_lald (D := eD E) (cl := vwCl) (tys := eT E) (f := M.2 8) hx hb hE.1 hW.1 8 1 rfl rfl h2 dX11_lies_5 ?_
  refine lv_aload_n hx hb dX11_lies_6 rfl (lv_at hl 0 rfl) ?_
  refine va_get (D := eD E) (cl := vwCl) (tys := eT E) (ci := 10) (C := RX11) (T := TX11) (N := 23) (v := .ref (eM E 8)) hx hb hts hinX11 hown hE.1 hW.1 0 rfl rfl 17 (by decide) (hts (.fieldLink RX11 36 "DialGardenModel" "markX" "[J") (by decide +kernel)) (fun _ h9 => h9) rfl dX11_lies_7 ?_
  refine lv_iload_n hx hb dX11_lies_10 rfl (lv_at hl 1 rfl) ?_
  refine va_lald (D := eD E) (cl := vwCl) (tys := eT E) (f := M.2 8) hx hb hE.1 hW.1 8 1 rfl rfl h1 dX11_lies_11 ?_
  refine lv_lsub hx hb dX11_lies_12 ?_
  refine lv_topl (fun x13 ex13 => ?_)
  refine lv_lstore (lv' := [(7, .long (x13)), (0, .ref (eM E 0)), (1, .int (p1)), (2, .int (p2)), (3, .long (p3)), (5, .long (p4))]) hx hb dX11_lies_13 hl (by decide) rfl (fun ls hl => ?_)
  refine lv_aload_n hx hb dX11_lies_15 rfl (lv_at hl 1 rfl) ?_
  refine va_get (D := eD E) (cl := vwCl) (tys := eT E) (ci := 10) (C := RX11) (T := TX11) (N := 23) (v := .ref (eM E 9)) hx hb hts hinX11 hown hE.1 hW.1 0 rfl rfl 18 (by decide) (hts (.fieldLink RX11 39 "DialGardenModel" "markY" "[J") (by decide +kernel)) (fun _ h9 => h9) rfl dX11_lies_16 ?_
  refine lv_iload_n hx hb dX11_lies_19 rfl (lv_at hl 3 rfl) ?_
  refine va_lald (D := eD E) (cl := vwCl) (tys := eT E) (f := M.2 9) hx hb hE.1 hW.1 9 1 rfl rfl h2 dX11_lies_20 ?_
  refine lv_aload_n hx hb dX11_lies_21 rfl (lv_at hl 1 rfl) ?_
  refine va_get (D := eD E) (cl := vwCl) (tys := eT E) (ci := 10) (C := RX11) (T := TX11) (N := 23) (v := .ref (eM E 9)) hx hb hts hinX11 hown hE.1 hW.1 0 rfl rfl 18 (by decide) (hts (.fieldLink RX11 39 "DialGardenModel" "markY" "[J") (by decide +kernel)) (fun _ h9 => h9) rfl dX11_lies_22 ?_
  refine lv_iload_n hx hb dX11_lies_25 rfl (lv_at hl 2 rfl) ?_
  refine va_lald (D := eD E) (cl := vwCl) (tys := eT E) (f := M.2 9) hx hb hE.1 hW.1 9 1 rfl rfl h1 dX11_lies_26 ?_
  refine lv_lsub hx hb dX11_lies_27 ?_
  refine lv_topl (fun x28 ex28 => ?_)
  refine lv_lstore (lv' := [(9, .long (x28)), (7, .long (x13)), (0, .ref (eM E 0)), (1, .int (p1)), (2, .int (p2)), (3, .long (p3)), (5, .long (p4))]) hx hb dX11_lies_28 hl (by decide) rfl (fun ls hl => ?_)
  refine lv_lload hx hb dX11_lies_30 (lv_at hl 1 rfl) ?_
  refine lv_lload hx hb dX11_lies_32 (lv_at hl 1 rfl) ?_
  refine lv_lmul hx hb dX11_lies_34 ?_
  refine lv_lload hx hb dX11_lies_35 (lv_at hl 0 rfl) ?_
  refine lv_lload hx hb dX11_lies_37 (lv_at hl 0 rfl) ?_
  refine lv_lmul hx hb dX11_lies_39 ?_
  refine lv_ladd hx hb dX11_lies_40 ?_
  refine lv_topl (fun x41 ex41 => ?_)
  refine lv_lstore (lv' := [(11, .long (x41)), (9, .long (x28)), (7, .long (x13)), (0, .ref (eM E 0)), (1, .int (p1)), (2, .int (p2)), (3, .long (p3)), (5, .long (p4))]) hx hb dX11_lies_41 hl (by decide) rfl (fun ls hl => ?_)
  refine lv_lload_n hx hb dX11_lies_43 rfl (lv_at hl 6 rfl) ?_
  refine lv_aload_n hx hb dX11_lies_44 rfl (lv_at hl 3 rfl) ?_
  refine va_get (D := eD E) (cl := vwCl) (tys := eT E) (ci := 10) (C := RX11) (T := TX11) (N := 23) (v := .ref (eM E 8)) hx hb hts hinX11 hown hE.1 hW.1 0 rfl rfl 17 (by decide) (hts (.fieldLink RX11 36 "DialGardenModel" "markX" "[J") (by decide +kernel)) (fun _ h9 => h9) rfl dX11_lies_45 ?_
  refine lv_iload_n hx hb dX11_lies_48 rfl (lv_at hl 4 rfl) ?_
  refine va_lald (D := eD E) (cl := vwCl) (tys := eT E) (f := M.2 8) hx hb hE.1 hW.1 8 1 rfl rfl h1 dX11_lies_49 ?_
  refine lv_lsub hx hb dX11_lies_50 ?_
  refine lv_lload hx hb dX11_lies_51 (lv_at hl 2 rfl) ?_
  refine lv_lmul hx hb dX11_lies_53 ?_
  refine lv_lload hx hb dX11_lies_54 (lv_at hl 7 rfl) ?_
  refine lv_aload_n hx hb dX11_lies_56 rfl (lv_at hl 3 rfl) ?_
  refine va_get (D := eD E) (cl := vwCl) (tys := eT E) (ci := 10) (C := RX11) (T := TX11) (N := 23) (v := .ref (eM E 9)) hx hb hts hinX11 hown hE.1 hW.1 0 rfl rfl 18 (by decide) (hts (.fieldLink RX11 39 "DialGardenModel" "markY" "[J") (by decide +kernel)) (fun _ h9 => h9) rfl dX11_lies_57 ?_
  refine lv_iload_n hx hb dX11_lies_60 rfl (lv_at hl 4 rfl) ?_
  refine va_lald (D := eD E) (cl := vwCl) (tys := eT E) (f := M.2 9) hx hb hE.1 hW.1 9 1 rfl rfl h1 dX11_lies_61 ?_
  refine lv_lsub hx hb dX11_lies_62 ?_
  refine lv_lload hx hb dX11_lies_63 (lv_at hl 1 rfl) ?_
  refine lv_lmul hx hb dX11_lies_65 ?_
  refine lv_ladd hx hb dX11_lies_66 ?_
  refine lv_topl (fun x67 ex67 => ?_)
  refine lv_lstore (lv' := [(13, .long (x67)), (11, .long (x41)), (9, .long (x28)), (7, .long (x13)), (0, .ref (eM E 0)), (1, .int (p1)), (2, .int (p2)), (3, .long (p3)), (5, .long (p4))]) hx hb dX11_lies_67 hl (by decide) rfl (fun ls hl => ?_)
  refine lv_lload hx hb dX11_lies_69 (lv_at hl 0 rfl) ?_
  refine lv_lconst (v := 0) hx hb dX11_lies_71 (by decide) ?_
  refine k_llt (tgt := 84) hx hb dX11_lies_72 dX11_lies_73 (by decide) (fun c72 => ?_) (fun c72 => ?_)
  · refine lv_iconst (v := 0) hx hb dX11_lies_84 (by decide) ?_
    exact W.zret (v := 0) hx hb hr rfl (fun t ht _ => ⟨⟨0, M, rfl, by subst ex67; subst ex41; subst ex28; subst ex13; first | (simp only [q_X11_lies, if_pos c72]; done) | contradiction, by dsimp only; rw [ht]; exact hW⟩, hS.F ht⟩) hS.2.2 dX11_lies_85
  · refine lv_lload hx hb dX11_lies_76 (lv_at hl 0 rfl) ?_
    refine lv_lload hx hb dX11_lies_78 (lv_at hl 1 rfl) ?_
    refine k_llt (tgt := 86) hx hb dX11_lies_80 dX11_lies_81 (by decide) (fun c80 => ?_) (fun c80 => ?_)
    · refine lv_aload_n hx hb dX11_lies_86 rfl (lv_at hl 4 rfl) ?_
      refine lv_iload_n hx hb dX11_lies_87 rfl (lv_at hl 5 rfl) ?_
      refine va_put (D := eD E) (cl := vwCl) (tys := eT E) (A := eA E) (ci := 10) (C := RX11) (T := TX11) (N := 23) (v := .int (p1)) (ty := .int) hx hb hts hinX11 tyX11 tyX11_ok nmX11 hown hE.1 hW.1 hW.2 hS 0 rfl rfl 20 (by decide) (hts (.fieldLink RX11 223 "DialGardenModel" "readH" "I") (by decide +kernel)) (fun _ h9 => h9) rfl (by decide +kernel) rfl rfl (Nat.le_of_ble_eq_true rfl) dX11_lies_88 (fun H locs hP hD hS => ?_)
      have hW : gW E (pM M 0 20 p1) S H := gW.of (uM_0_20 E M S p1) hP hD
      refine lv_aload_n hx hb dX11_lies_91 rfl (lv_at hl 4 rfl) ?_
      refine lv_iload_n hx hb dX11_lies_92 rfl (lv_at hl 6 rfl) ?_
      refine va_put (D := eD E) (cl := vwCl) (tys := eT E) (A := eA E) (ci := 10) (C := RX11) (T := TX11) (N := 23) (v := .int (p2)) (ty := .int) hx hb hts hinX11 tyX11 tyX11_ok nmX11 hown hE.1 hW.1 hW.2 hS 0 rfl rfl 21 (by decide) (hts (.fieldLink RX11 226 "DialGardenModel" "readK" "I") (by decide +kernel)) (fun _ h9 => h9) rfl (by decide +kernel) rfl rfl (Nat.le_of_ble_eq_true rfl) dX11_lies_93 (fun H locs hP hD hS => ?_)
      have hW : gW E (pM (pM M 0 20 p1) 0 21 p2) S H := gW.of (uM_0_21 E (pM M 0 20 p1) S p2) hP hD
      refine lv_aload_n hx hb dX11_lies_96 rfl (lv_at hl 4 rfl) ?_
      refine lv_ldc2 hx hb (v := 60) hown (hts (.constantLong RX11 229 (60)) (by decide +kernel)) dX11_lies_97 ?_
      refine lv_iload_n hx hb dX11_lies_100 rfl (lv_at hl 5 rfl) ?_
      refine lv_i2l (v := p1.toInt64) hx hb dX11_lies_101 rfl ?_
      refine lv_lmul hx hb dX11_lies_102 ?_
      refine lv_ldc2 hx hb (v := 60) hown (hts (.constantLong RX11 229 (60)) (by decide +kernel)) dX11_lies_103 ?_
      refine lv_iload_n hx hb dX11_lies_106 rfl (lv_at hl 6 rfl) ?_
      refine lv_iload_n hx hb dX11_lies_107 rfl (lv_at hl 5 rfl) ?_
      refine lv_isub hx hb dX11_lies_108 ?_
      refine lv_i2l (v := (p2 - p1).toInt64) hx hb dX11_lies_109 rfl ?_
      refine lv_lmul hx hb dX11_lies_110 ?_
      refine lv_lload hx hb dX11_lies_111 (lv_at hl 0 rfl) ?_
      refine lv_lmul hx hb dX11_lies_113 ?_
      refine lv_lload hx hb dX11_lies_114 (lv_at hl 1 rfl) ?_
      refine lv_ldiv hx hb dX11_lies_116 (li_ne c72 c80) ?_
      refine lv_ladd hx hb dX11_lies_117 ?_
      refine va_put (D := eD E) (cl := vwCl) (tys := eT E) (A := eA E) (ci := 10) (C := RX11) (T := TX11) (N := 23) (v := .long ((60 * (p1.toInt64)) + (((60 * ((p2 - p1).toInt64)) * x67) / x41))) (ty := .long) hx hb hts hinX11 tyX11 tyX11_ok nmX11 hown hE.1 hW.1 hW.2 hS 0 rfl rfl 22 (by decide) (hts (.fieldLink RX11 231 "DialGardenModel" "readShown" "J") (by decide +kernel)) (fun _ h9 => h9) rfl (by decide +kernel) rfl rfl (Nat.le_of_ble_eq_true rfl) dX11_lies_118 (fun H locs hP hD hS => ?_)
      have hW : gW E (pJ (pM (pM M 0 20 p1) 0 21 p2) 0 22 ((60 * (p1.toInt64)) + (((60 * ((p2 - p1).toInt64)) * x67) / x41))) S H := gW.of (uM_0_22 E (pM (pM M 0 20 p1) 0 21 p2) S ((60 * (p1.toInt64)) + (((60 * ((p2 - p1).toInt64)) * x67) / x41))) hP hD
      refine lv_iconst (v := 1) hx hb dX11_lies_121 (by decide) ?_
      exact W.zret (v := 1) hx hb hr rfl (fun t ht _ => ⟨⟨1, pJ (pM (pM M 0 20 p1) 0 21 p2) 0 22 ((60 * (p1.toInt64)) + (((60 * ((p2 - p1).toInt64)) * x67) / x41)), rfl, by subst ex67; subst ex41; subst ex28; subst ex13; first | (simp only [q_X11_lies, if_neg c72, if_pos c80]; done) | contradiction, by dsimp only; rw [ht]; exact hW⟩, hS.F ht⟩) hS.2.2 dX11_lies_122
    · refine lv_iconst (v := 0) hx hb dX11_lies_84 (by decide) ?_
      exact W.zret (v := 0) hx hb hr rfl (fun t ht _ => ⟨⟨0, M, rfl, by subst ex67; subst ex41; subst ex28; subst ex13; first | (simp only [q_X11_lies, if_neg c72, if_neg c80]; done) | contradiction, by dsimp only; rw [ht]; exact hW⟩, hS.F ht⟩) hS.2.2 dX11_lies_85

def q_X11_isRead_b30 (M : gSm) (p1 : Int32) (p2 : Int32) (p3 : Int32) : Nat → Int64 → Int64 → Int32 → Int32 → gSm → Int32 × gSm
  | 0, v4, v6, v8, v9, Z => (0, Z)
  | n + 1, v4, v6, v8, v9, Z => (if 24 ≤ v9 then (0, Z) else (if (Z.1 10 (v9.toNatClampNeg)) = 0 then (let x96 := v9 + 1; q_X11_isRead_b30 M p1 p2 p3 n v4 v6 v8 x96 Z) else (let r50 := q_X11_get Z p1 0; (if r50 = 5 then (if (Z.2 9 (v9.toNatClampNeg)) = v6 then (if v8 < 0 then (let x96 := v9 + 1; q_X11_isRead_b30 M p1 p2 p3 n v4 v6 v9 x96 Z) else (let r84 := (q_X11_lies Z v8 v9 v4 v6).1; let M84 := (q_X11_lies Z v8 v9 v4 v6).2; (if r84 = 0 then (let x96 := v9 + 1; q_X11_isRead_b30 M p1 p2 p3 n v4 v6 v9 x96 M84) else (1, M84)))) else (let x96 := v9 + 1; q_X11_isRead_b30 M p1 p2 p3 n v4 v6 v8 x96 Z)) else (if v8 < 0 then (let x96 := v9 + 1; q_X11_isRead_b30 M p1 p2 p3 n v4 v6 v9 x96 Z) else (let r84 := (q_X11_lies Z v8 v9 v4 v6).1; let M84 := (q_X11_lies Z v8 v9 v4 v6).2; (if r84 = 0 then (let x96 := v9 + 1; q_X11_isRead_b30 M p1 p2 p3 n v4 v6 v9 x96 M84) else (1, M84))))))))
def q_X11_isRead (M : gSm) (p1 : Int32) (p2 : Int32) (p3 : Int32) : Int32 × gSm := (let r4 := (q_X11_stateNow M p1 p2 p3).1; let M4 := (q_X11_stateNow M p1 p2 p3).2; (if r4 = 0 then (let x16 := M4.2 0 14; (let x22 := M4.2 0 15; q_X11_isRead_b30 M p1 p2 p3 25 x16 x22 (-1) 0 M4)) else (0, M4)))
set_option maxHeartbeats 4000000 in
set_option maxRecDepth 100000 in
theorem c_X11_isRead (l : Launch) (E : gEE) (M : gSm) (S : gSc) (p1 : Int32) (p2 : Int32) (p3 : Int32) (hp : isP p1) (hd : 0 ≤ p2.toInt) (hc : (M.1 0 6).toInt ≤ 366) : Met l yX11_isRead wsX11_isRead ({ frames := 6, cells := 0, slots := 0, locals := 156 }) (va_Pc [.ref (eM E 0), .int (p1), .int (p2), .int (p3)] (gP E M S)) (va_Qi (fun r (u : gSm) => (r, u) = q_X11_isRead M p1 p2 p3) (fun u t => gW E u S t.heap) (eA E)) 0 0 (eA E) := by
  refine Met.ofW (cc := cX11_isRead) (maxL := 10) (ret := (some .boolean)) (by decide) rfl ?_
  intro p e s m args below meth c s₁ B hml hv
  obtain ⟨rfl, hE, hW⟩ := hv
  have hx := B.exec
  have hb := B.bytes
  have hr := B.returns
  have hts := atoms_spec (ws := wsX11_isRead) B.pre
  have hown : s.vm.findClass RX11 = some m.cls := findClass_of_methodNamed B.named
  have hlocks := B.notSynchronized
  have hinX11 : ∀ w ∈ wsX110, w ∈ wsX11_isRead := by decide +kernel
  have hS : va_S (eA E) s.heap s.heap [] := va_S.rf
  have hl := lv_entry ([.ref (eM E 0), .int (p1), .int (p2), .int (p3)]) (n := 10) (Nat.le_of_ble_eq_true rfl)
  rw [lg_entry_eq]
  generalize (lg_sl ([.ref (eM E 0), .int (p1), .int (p2), .int (p3)]) ++ List.replicate (10 - (lg_sl ([.ref (eM E 0), .int (p1), .int (p2), .int (p3)])).length) Slot.unset).toArray = ls at hl ⊢
  have hl : lv_has ls 10 [(0, .ref (eM E 0)), (1, .int (p1)), (2, .int (p2)), (3, .int (p3))] := hl
  have hS : ∃ (H : Heap) (locs : List Loc), H = s.heap ∧ locs = [] ∧ gW E M S H ∧ va_S (eA E) s.heap H locs := ⟨_, _, rfl, rfl, hW, hS⟩
  clear hW
  obtain ⟨H, locs, eH, el, hW, hS⟩ := hS
  rw [← eH, ← el]
  clear eH el
  have L30 : ∀ n : Nat, ∀ (v4 : Int64) (v6 : Int64) (v8 : Int32) (v9 : Int32) (Z : gSm) (H : Heap) (locs : List Loc) (ls : Array Slot), (gL 24 n v9 ∧ -1 ≤ v8.toInt ∧ v8.toInt < 24) → q_X11_isRead M p1 p2 p3 = q_X11_isRead_b30 M p1 p2 p3 n v4 v6 v8 v9 Z → gW E Z S H → va_S (eA E) s.heap H locs → lv_has ls 10 [(0, .ref (eM E 0)), (1, .int (p1)), (4, .long (v4)), (6, .long (v6)), (8, .int (v8)), (9, .int (v9))] → W p l e (headSpec wsX11_isRead ({ frames := 6, cells := 0, slots := 0, locals := 156 })).room s m ([.ref (eM E 0), .int (p1), .int (p2), .int (p3)] : List Value).toArray below meth c H locs 0 0 (MQ below (va_Qi (fun r (u : gSm) => (r, u) = q_X11_isRead M p1 p2 p3) (fun u t => gW E u S t.heap) (eA E)) ([.ref (eM E 0), .int (p1), .int (p2), .int (p3)] : List Value).toArray s 0 0 (eA E)) (F0 m 30 ls []) := by
    intro n
    induction n with
    | zero =>
      intro v4 v6 v8 v9 Z H locs ls hi hq hW hS hl
      exact hi.1.z
    | succ n ih =>
      intro v4 v6 v8 v9 Z H locs ls hi hq hW hS hl
      refine lv_iload hx hb dX11_isRead_30 (lv_at hl 5 rfl) ?_
      refine lv_bipush (v := 24) hx hb dX11_isRead_32 (by decide) ?_
      refine lv_icmp_ge (tgt := 102) hx hb dX11_isRead_34 (by decide) (fun c34 => ?_) (fun c34 => ?_)
      · refine lv_iconst (v := 0) hx hb dX11_isRead_102 (by decide) ?_
        exact W.zret (v := 0) hx hb hr rfl (fun t ht _ => ⟨⟨0, Z, rfl, by rw [hq]; first | (simp only [q_X11_isRead_b30, if_pos c34]; done) | contradiction, by dsimp only; rw [ht]; exact hW⟩, hS.F ht⟩) hS.2.2 dX11_isRead_103
      · refine lv_aload_n hx hb dX11_isRead_37 rfl (lv_at hl 0 rfl) ?_
        refine va_get (D := eD E) (cl := vwCl) (tys := eT E) (ci := 10) (C := RX11) (T := TX11) (N := 23) (v := .ref (eM E 10)) hx hb hts hinX11 hown hE.1 hW.1 0 rfl rfl 19 (by decide) (hts (.fieldLink RX11 42 "DialGardenModel" "isMark" "[Z") (by decide +kernel)) (fun _ h9 => h9) rfl dX11_isRead_38 ?_
        refine lv_iload hx hb dX11_isRead_41 (lv_at hl 5 rfl) ?_
        refine va_zald (D := eD E) (cl := vwCl) (tys := eT E) (f := Z.1 10) hx hb hE.1 hW.1 10 2 rfl rfl (vx (hi.1.lt c34 (by decide)).1 (hi.1.lt c34 (by decide)).2) dX11_isRead_43 ?_
        refine lv_if_eq (tgt := 96) hx hb dX11_isRead_44 (by decide) (fun c44 => ?_) (fun c44 => ?_)
        · obtain ⟨x96, ex96⟩ : ∃ y : Int32, y = v9 + 1 := ⟨_, rfl⟩
          refine lv_iinc (v := x96) (lv' := [(9, .int (x96)), (0, .ref (eM E 0)), (1, .int (p1)), (4, .long (v4)), (6, .long (v6)), (8, .int (v8))]) hx hb dX11_isRead_96 hl (k := 5) rfl (by rw [ex96]; rfl) (by decide) rfl (fun ls hl => ?_)
          refine lv_goto (tgt := 30) hx hb dX11_isRead_99 (by decide) ?_
          exact ih _ _ _ _ _ _ _ _ (by first | exact ⟨hi.1.st c34 (by decide) ex96, hi.2⟩ | exact ⟨hi.1.st c34 (by decide) ex96, by have := hi.1.lt c34 (by decide); exact ⟨by omega, by omega⟩⟩) (by rw [hq]; subst ex96; first | (simp only [q_X11_isRead_b30, if_neg c34, if_pos c44]; done) | contradiction) hW hS (lv_sub hl [1, 2, 3, 4, 5, 0] rfl)
        · refine lv_aload_n hx hb dX11_isRead_47 rfl (lv_at hl 0 rfl) ?_
          refine lv_iload_n hx hb dX11_isRead_48 rfl (lv_at hl 1 rfl) ?_
          refine lv_iconst (v := 0) hx hb dX11_isRead_49 (by decide) ?_
          refine k_Si (va_runV (As := [.int (p1), .int (0)]) (rest := []) ⟨hx, hb, hml, hown, hts⟩ (c_X11_get l E Z S p1 0 (gx hp (by decide))) (cwV 2 hts gX11_isRead_X11_get rfl rfl rfl (by decide +kernel) ⟨Nat.le_of_ble_eq_true rfl, Nat.le_of_ble_eq_true rfl⟩) (gP.V (ci := 10) (q := (RX11, TX11, 23)) (q0 := 0) hE hS hW rfl rfl) rfl rfl hl.1 rfl (lv_room (Nat.le_of_ble_eq_true rfl)) dX11_isRead_50 ⟨Nat.le_of_ble_eq_true rfl, Nat.le_of_ble_eq_true rfl⟩) (fun r50 er50 => ?_)
          refine lv_iconst (v := 5) hx hb dX11_isRead_53 (by decide) ?_
          refine lv_icmp_ne (tgt := 70) hx hb dX11_isRead_54 (by decide) (fun c54 => ?_) (fun c54 => ?_)
          · refine lv_iload hx hb dX11_isRead_70 (lv_at hl 4 rfl) ?_
            refine lv_if_lt (tgt := 92) hx hb dX11_isRead_72 (by decide) (fun c72 => ?_) (fun c72 => ?_)
            · refine lv_iload hx hb dX11_isRead_92 (lv_at hl 5 rfl) ?_
              refine lv_istore (lv' := [(8, .int (v9)), (0, .ref (eM E 0)), (1, .int (p1)), (4, .long (v4)), (6, .long (v6)), (9, .int (v9))]) hx hb dX11_isRead_94 hl (by decide) rfl (fun ls hl => ?_)
              obtain ⟨x96, ex96⟩ : ∃ y : Int32, y = v9 + 1 := ⟨_, rfl⟩
              refine lv_iinc (v := x96) (lv' := [(9, .int (x96)), (8, .int (v9)), (0, .ref (eM E 0)), (1, .int (p1)), (4, .long (v4)), (6, .long (v6))]) hx hb dX11_isRead_96 hl (k := 5) rfl (by rw [ex96]; rfl) (by decide) rfl (fun ls hl => ?_)
              refine lv_goto (tgt := 30) hx hb dX11_isRead_99 (by decide) ?_
              exact ih _ _ _ _ _ _ _ _ (by first | exact ⟨hi.1.st c34 (by decide) ex96, hi.2⟩ | exact ⟨hi.1.st c34 (by decide) ex96, by have := hi.1.lt c34 (by decide); exact ⟨by omega, by omega⟩⟩) (by rw [hq]; subst ex96; subst er50; first | (simp only [q_X11_isRead_b30, if_neg c34, if_neg c44, if_neg c54, if_pos c72]; done) | contradiction) hW hS (lv_sub hl [2, 3, 4, 5, 1, 0] rfl)
            · refine lv_aload_n hx hb dX11_isRead_75 rfl (lv_at hl 0 rfl) ?_
              refine lv_iload hx hb dX11_isRead_76 (lv_at hl 4 rfl) ?_
              refine lv_iload hx hb dX11_isRead_78 (lv_at hl 5 rfl) ?_
              refine lv_lload hx hb dX11_isRead_80 (lv_at hl 2 rfl) ?_
              refine lv_lload hx hb dX11_isRead_82 (lv_at hl 3 rfl) ?_
              refine va_calli (va_runV (As := [.int (v8), .int (v9), .long (v4), .long (v6)]) (rest := []) ⟨hx, hb, hml, hown, hts⟩ (c_X11_lies l E Z S v8 v9 v4 v6 (vx (i_nlt c72) hi.2.2) (vx (hi.1.lt c34 (by decide)).1 (hi.1.lt c34 (by decide)).2)) (cwV 4 hts gX11_isRead_X11_lies rfl rfl rfl (by decide +kernel) ⟨Nat.le_of_ble_eq_true rfl, Nat.le_of_ble_eq_true rfl⟩) (gP.V (ci := 10) (q := (RX11, TX11, 23)) (q0 := 0) hE hS hW rfl rfl) rfl rfl hl.1 rfl (lv_room (Nat.le_of_ble_eq_true rfl)) dX11_isRead_84 ⟨Nat.le_of_ble_eq_true rfl, Nat.le_of_ble_eq_true rfl⟩) hS (fun _ _ h => h) (fun _ h => h) (fun r84 M84 t H locs ht hvm hw hB hz1 hk1 hS => ?_)
              obtain ⟨er84, eM84⟩ := prj hw
              clear hw
              have hW : gW E M84 S H := by rw [← ht]; exact hB
              refine lv_if_eq (tgt := 92) hx hb dX11_isRead_87 (by decide) (fun c87 => ?_) (fun c87 => ?_)
              · refine lv_iload hx hb dX11_isRead_92 (lv_at hl 5 rfl) ?_
                refine lv_istore (lv' := [(8, .int (v9)), (0, .ref (eM E 0)), (1, .int (p1)), (4, .long (v4)), (6, .long (v6)), (9, .int (v9))]) hx hb dX11_isRead_94 hl (by decide) rfl (fun ls hl => ?_)
                obtain ⟨x96, ex96⟩ : ∃ y : Int32, y = v9 + 1 := ⟨_, rfl⟩
                refine lv_iinc (v := x96) (lv' := [(9, .int (x96)), (8, .int (v9)), (0, .ref (eM E 0)), (1, .int (p1)), (4, .long (v4)), (6, .long (v6))]) hx hb dX11_isRead_96 hl (k := 5) rfl (by rw [ex96]; rfl) (by decide) rfl (fun ls hl => ?_)
                refine lv_goto (tgt := 30) hx hb dX11_isRead_99 (by decide) ?_
                exact ih _ _ _ _ _ _ _ _ (by first | exact ⟨hi.1.st c34 (by decide) ex96, hi.2⟩ | exact ⟨hi.1.st c34 (by decide) ex96, by have := hi.1.lt c34 (by decide); exact ⟨by omega, by omega⟩⟩) (by rw [hq]; subst ex96; subst eM84; subst er84; subst er50; first | (simp only [q_X11_isRead_b30, if_neg c34, if_neg c44, if_neg c54, if_neg c72, if_pos c87]; done) | contradiction) hW hS (lv_sub hl [2, 3, 4, 5, 1, 0] rfl)
              · refine lv_iconst (v := 1) hx hb dX11_isRead_90 (by decide) ?_
                exact W.zret (v := 1) hx hb hr rfl (fun t ht _ => ⟨⟨1, M84, rfl, by rw [hq]; subst eM84; subst er84; subst er50; first | (simp only [q_X11_isRead_b30, if_neg c34, if_neg c44, if_neg c54, if_neg c72, if_neg c87]; done) | contradiction, by dsimp only; rw [ht]; exact hW⟩, hS.F ht⟩) hS.2.2 dX11_isRead_91
          · refine lv_aload_n hx hb dX11_isRead_57 rfl (lv_at hl 0 rfl) ?_
            refine va_get (D := eD E) (cl := vwCl) (tys := eT E) (ci := 10) (C := RX11) (T := TX11) (N := 23) (v := .ref (eM E 9)) hx hb hts hinX11 hown hE.1 hW.1 0 rfl rfl 18 (by decide) (hts (.fieldLink RX11 39 "DialGardenModel" "markY" "[J") (by decide +kernel)) (fun _ h9 => h9) rfl dX11_isRead_58 ?_
            refine lv_iload hx hb dX11_isRead_61 (lv_at hl 5 rfl) ?_
            refine va_lald (D := eD E) (cl := vwCl) (tys := eT E) (f := Z.2 9) hx hb hE.1 hW.1 9 1 rfl rfl (vx (hi.1.lt c34 (by decide)).1 (hi.1.lt c34 (by decide)).2) dX11_isRead_63 ?_
            refine lv_lload hx hb dX11_isRead_64 (lv_at hl 3 rfl) ?_
            refine k_lne (tgt := 96) hx hb dX11_isRead_66 dX11_isRead_67 (by decide) (fun c66 => ?_) (fun c66 => ?_)
            · obtain ⟨x96, ex96⟩ : ∃ y : Int32, y = v9 + 1 := ⟨_, rfl⟩
              refine lv_iinc (v := x96) (lv' := [(9, .int (x96)), (0, .ref (eM E 0)), (1, .int (p1)), (4, .long (v4)), (6, .long (v6)), (8, .int (v8))]) hx hb dX11_isRead_96 hl (k := 5) rfl (by rw [ex96]; rfl) (by decide) rfl (fun ls hl => ?_)
              refine lv_goto (tgt := 30) hx hb dX11_isRead_99 (by decide) ?_
              exact ih _ _ _ _ _ _ _ _ (by first | exact ⟨hi.1.st c34 (by decide) ex96, hi.2⟩ | exact ⟨hi.1.st c34 (by decide) ex96, by have := hi.1.lt c34 (by decide); exact ⟨by omega, by omega⟩⟩) (by rw [hq]; subst ex96; subst er50; first | (simp only [q_X11_isRead_b30, if_neg c34, if_neg c44, if_pos c54, if_neg c66]; done) | contradiction) hW hS (lv_sub hl [1, 2, 3, 4, 5, 0] rfl)
            · refine lv_iload hx hb dX11_isRead_70 (lv_at hl 4 rfl) ?_
              refine lv_if_lt (tgt := 92) hx hb dX11_isRead_72 (by decide) (fun c72 => ?_) (fun c72 => ?_)
              · refine lv_iload hx hb dX11_isRead_92 (lv_at hl 5 rfl) ?_
                refine lv_istore (lv' := [(8, .int (v9)), (0, .ref (eM E 0)), (1, .int (p1)), (4, .long (v4)), (6, .long (v6)), (9, .int (v9))]) hx hb dX11_isRead_94 hl (by decide) rfl (fun ls hl => ?_)
                obtain ⟨x96, ex96⟩ : ∃ y : Int32, y = v9 + 1 := ⟨_, rfl⟩
                refine lv_iinc (v := x96) (lv' := [(9, .int (x96)), (8, .int (v9)), (0, .ref (eM E 0)), (1, .int (p1)), (4, .long (v4)), (6, .long (v6))]) hx hb dX11_isRead_96 hl (k := 5) rfl (by rw [ex96]; rfl) (by decide) rfl (fun ls hl => ?_)
                refine lv_goto (tgt := 30) hx hb dX11_isRead_99 (by decide) ?_
                exact ih _ _ _ _ _ _ _ _ (by first | exact ⟨hi.1.st c34 (by decide) ex96, hi.2⟩ | exact ⟨hi.1.st c34 (by decide) ex96, by have := hi.1.lt c34 (by decide); exact ⟨by omega, by omega⟩⟩) (by rw [hq]; subst ex96; subst er50; first | (simp only [q_X11_isRead_b30, if_neg c34, if_neg c44, if_pos c54, if_pos c66, if_pos c72]; done) | contradiction) hW hS (lv_sub hl [2, 3, 4, 5, 1, 0] rfl)
              · refine lv_aload_n hx hb dX11_isRead_75 rfl (lv_at hl 0 rfl) ?_
                refine lv_iload hx hb dX11_isRead_76 (lv_at hl 4 rfl) ?_
                refine lv_iload hx hb dX11_isRead_78 (lv_at hl 5 rfl) ?_
                refine lv_lload hx hb dX11_isRead_80 (lv_at hl 2 rfl) ?_
                refine lv_lload hx hb dX11_isRead_82 (lv_at hl 3 rfl) ?_
                refine va_calli (va_runV (As := [.int (v8), .int (v9), .long (v4), .long (v6)]) (rest := []) ⟨hx, hb, hml, hown, hts⟩ (c_X11_lies l E Z S v8 v9 v4 v6 (vx (i_nlt c72) hi.2.2) (vx (hi.1.lt c34 (by decide)).1 (hi.1.lt c34 (by decide)).2)) (cwV 4 hts gX11_isRead_X11_lies rfl rfl rfl (by decide +kernel) ⟨Nat.le_of_ble_eq_true rfl, Nat.le_of_ble_eq_true rfl⟩) (gP.V (ci := 10) (q := (RX11, TX11, 23)) (q0 := 0) hE hS hW rfl rfl) rfl rfl hl.1 rfl (lv_room (Nat.le_of_ble_eq_true rfl)) dX11_isRead_84 ⟨Nat.le_of_ble_eq_true rfl, Nat.le_of_ble_eq_true rfl⟩) hS (fun _ _ h => h) (fun _ h => h) (fun r84 M84 t H locs ht hvm hw hB hz1 hk1 hS => ?_)
                obtain ⟨er84, eM84⟩ := prj hw
                clear hw
                have hW : gW E M84 S H := by rw [← ht]; exact hB
                refine lv_if_eq (tgt := 92) hx hb dX11_isRead_87 (by decide) (fun c87 => ?_) (fun c87 => ?_)
                · refine lv_iload hx hb dX11_isRead_92 (lv_at hl 5 rfl) ?_
                  refine lv_istore (lv' := [(8, .int (v9)), (0, .ref (eM E 0)), (1, .int (p1)), (4, .long (v4)), (6, .long (v6)), (9, .int (v9))]) hx hb dX11_isRead_94 hl (by decide) rfl (fun ls hl => ?_)
                  obtain ⟨x96, ex96⟩ : ∃ y : Int32, y = v9 + 1 := ⟨_, rfl⟩
                  refine lv_iinc (v := x96) (lv' := [(9, .int (x96)), (8, .int (v9)), (0, .ref (eM E 0)), (1, .int (p1)), (4, .long (v4)), (6, .long (v6))]) hx hb dX11_isRead_96 hl (k := 5) rfl (by rw [ex96]; rfl) (by decide) rfl (fun ls hl => ?_)
                  refine lv_goto (tgt := 30) hx hb dX11_isRead_99 (by decide) ?_
                  exact ih _ _ _ _ _ _ _ _ (by first | exact ⟨hi.1.st c34 (by decide) ex96, hi.2⟩ | exact ⟨hi.1.st c34 (by decide) ex96, by have := hi.1.lt c34 (by decide); exact ⟨by omega, by omega⟩⟩) (by rw [hq]; subst ex96; subst eM84; subst er84; subst er50; first | (simp only [q_X11_isRead_b30, if_neg c34, if_neg c44, if_pos c54, if_pos c66, if_neg c72, if_pos c87]; done) | contradiction) hW hS (lv_sub hl [2, 3, 4, 5, 1, 0] rfl)
                · refine lv_iconst (v := 1) hx hb dX11_isRead_90 (by decide) ?_
                  exact W.zret (v := 1) hx hb hr rfl (fun t ht _ => ⟨⟨1, M84, rfl, by rw [hq]; subst eM84; subst er84; subst er50; first | (simp only [q_X11_isRead_b30, if_neg c34, if_neg c44, if_pos c54, if_pos c66, if_neg c72, if_neg c87]; done) | contradiction, by dsimp only; rw [ht]; exact hW⟩, hS.F ht⟩) hS.2.2 dX11_isRead_91
  refine lv_aload_n hx hb dX11_isRead_0 rfl (lv_at hl 0 rfl) ?_
  refine lv_iload_n hx hb dX11_isRead_1 rfl (lv_at hl 1 rfl) ?_
  refine lv_iload_n hx hb dX11_isRead_2 rfl (lv_at hl 2 rfl) ?_
  refine lv_iload_n hx hb dX11_isRead_3 rfl (lv_at hl 3 rfl) ?_
  refine va_calli (va_runV (As := [.int (p1), .int (p2), .int (p3)]) (rest := []) ⟨hx, hb, hml, hown, hts⟩ (c_X11_stateNow l E M S p1 p2 p3 hp hd hc) (cwV 3 hts gX11_isRead_X11_stateNow rfl rfl rfl (by decide +kernel) ⟨Nat.le_of_ble_eq_true rfl, Nat.le_of_ble_eq_true rfl⟩) (gP.V (ci := 10) (q := (RX11, TX11, 23)) (q0 := 0) hE hS hW rfl rfl) rfl rfl hl.1 rfl (lv_room (Nat.le_of_ble_eq_true rfl)) dX11_isRead_4 ⟨Nat.le_of_ble_eq_true rfl, Nat.le_of_ble_eq_true rfl⟩) hS (fun _ _ h => h) (fun _ h => h) (fun r4 M4 t H locs ht hvm hw hB hz1 hk1 hS => ?_)
  obtain ⟨er4, eM4⟩ := prj hw
  clear hw
  have hW : gW E M4 S H := by rw [← ht]; exact hB
  refine lv_if_eq (tgt := 12) hx hb dX11_isRead_7 (by decide) (fun c7 => ?_) (fun c7 => ?_)
  · refine lv_aload_n hx hb dX11_isRead_12 rfl (lv_at hl 0 rfl) ?_
    refine va_get (D := eD E) (cl := vwCl) (tys := eT E) (ci := 10) (C := RX11) (T := TX11) (N := 23) (v := .long (M4.2 0 14)) hx hb hts hinX11 hown hE.1 hW.1 0 rfl rfl 14 (by decide) (hts (.fieldLink RX11 189 "DialGardenModel" "endX" "J") (by decide +kernel)) (fun _ h9 => h9) rfl dX11_isRead_13 ?_
    refine lv_topl (fun x16 ex16 => ?_)
    refine lv_lstore (lv' := [(4, .long (x16)), (0, .ref (eM E 0)), (1, .int (p1)), (2, .int (p2)), (3, .int (p3))]) hx hb dX11_isRead_16 hl (by decide) rfl (fun ls hl => ?_)
    refine lv_aload_n hx hb dX11_isRead_18 rfl (lv_at hl 1 rfl) ?_
    refine va_get (D := eD E) (cl := vwCl) (tys := eT E) (ci := 10) (C := RX11) (T := TX11) (N := 23) (v := .long (M4.2 0 15)) hx hb hts hinX11 hown hE.1 hW.1 0 rfl rfl 15 (by decide) (hts (.fieldLink RX11 192 "DialGardenModel" "endY" "J") (by decide +kernel)) (fun _ h9 => h9) rfl dX11_isRead_19 ?_
    refine lv_topl (fun x22 ex22 => ?_)
    refine lv_lstore (lv' := [(6, .long (x22)), (4, .long (x16)), (0, .ref (eM E 0)), (1, .int (p1)), (2, .int (p2)), (3, .int (p3))]) hx hb dX11_isRead_22 hl (by decide) rfl (fun ls hl => ?_)
    refine lv_iconst (v := (-1)) hx hb dX11_isRead_24 (by decide) ?_
    refine lv_istore (lv' := [(8, .int ((-1))), (6, .long (x22)), (4, .long (x16)), (0, .ref (eM E 0)), (1, .int (p1)), (2, .int (p2)), (3, .int (p3))]) hx hb dX11_isRead_25 hl (by decide) rfl (fun ls hl => ?_)
    refine lv_iconst (v := 0) hx hb dX11_isRead_27 (by decide) ?_
    refine lv_istore (lv' := [(9, .int (0)), (8, .int ((-1))), (6, .long (x22)), (4, .long (x16)), (0, .ref (eM E 0)), (1, .int (p1)), (2, .int (p2)), (3, .int (p3))]) hx hb dX11_isRead_28 hl (by decide) rfl (fun ls hl => ?_)
    exact L30 25 _ _ _ _ _ _ _ _ (by exact ⟨gL.i 24, by decide⟩) (by subst ex22; subst ex16; subst eM4; subst er4; first | (simp only [q_X11_isRead, if_pos c7]; done) | contradiction) hW hS (lv_sub hl [4, 5, 3, 2, 1, 0] rfl)
  · refine lv_iconst (v := 0) hx hb dX11_isRead_10 (by decide) ?_
    exact W.zret (v := 0) hx hb hr rfl (fun t ht _ => ⟨⟨0, M4, rfl, by subst eM4; subst er4; first | (simp only [q_X11_isRead, if_neg c7]; done) | contradiction, by dsimp only; rw [ht]; exact hW⟩, hS.F ht⟩) hS.2.2 dX11_isRead_11
