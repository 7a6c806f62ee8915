def q_X11_found_b39 (M : gSm) (p1 : Int32) : Nat → Int32 → gSm → Int32 × gSm
  | 0, v2, Z => (0, Z)
  | n + 1, v2, Z => (if 300 < v2 then (Z.1 0 10, Z) else (let r49 := (q_X11_agrees Z p1 v2).1; let M49 := (q_X11_agrees Z p1 v2).2; (if r49 = 0 then (let x75 := v2 + 1; q_X11_found_b39 M p1 n x75 M49) else (let x75 := v2 + 1; q_X11_found_b39 M p1 n x75 (pM (pM M49 6 ((M49.1 0 10).toNatClampNeg) v2) 0 10 ((M49.1 0 10) + 1))))))
def q_X11_found (M : gSm) (p1 : Int32) : Int32 × gSm := (let r1 := q_X11_isPlace p1; (if r1 = 0 then ((-2000000001), M) else (let r13 := q_X11_isOfKind M p1 1; (if r13 = 0 then ((-2000000002), M) else (if 3 ≤ (M.1 0 8) then q_X11_found_b39 M p1 602 (-300) (pM M 0 10 0) else ((-2000000002), M))))))
set_option maxHeartbeats 4000000 in
set_option maxRecDepth 100000 in
theorem c_X11_found (l : Launch) (E : gEE) (M : gSm) (S : gSc) (p1 : Int32) (hc : (M.1 0 6).toInt ≤ 366) (hs0 : 0 ≤ (M.1 0 8).toInt) (hs : (M.1 0 8).toInt ≤ 20) (hsd : ∀ j, j < 20 → 0 ≤ (M.1 5 (4 * j)).toInt) : Met l yX11_found wsX11_found ({ frames := 6, cells := 0, slots := 0, locals := 157 }) (va_Pc [.ref (eM E 0), .int (p1)] (gP E M S)) (va_Qi (fun r (u : gSm) => (r, u) = q_X11_found M p1) (fun u t => gW E u S t.heap) (eA E)) 0 0 (eA E) := by
  refine Met.ofW (cc := cX11_found) (maxL := 3) (ret := (some .int)) (by decide) rfl ?_
  intro p e s m args below meth c s₁ B hml hv
  obtain ⟨rfl, hE, hW⟩ := hv
  have hx := B.exec
  have hb := B.bytes
  have hr := B.returns
  have hts := atoms_spec (ws := wsX11_found) B.pre
  have hown : s.vm.findClass RX11 = some m.cls := findClass_of_methodNamed B.named
  have hlocks := B.notSynchronized
  have hinX11 : ∀ w ∈ wsX110, w ∈ wsX11_found := by decide +kernel
  have hS : va_S (eA E) s.heap s.heap [] := va_S.rf
  have hl := lv_entry ([.ref (eM E 0), .int (p1)]) (n := 3) (Nat.le_of_ble_eq_true rfl)
  rw [lg_entry_eq]
  generalize (lg_sl ([.ref (eM E 0), .int (p1)]) ++ List.replicate (3 - (lg_sl ([.ref (eM E 0), .int (p1)])).length) Slot.unset).toArray = ls at hl ⊢
  have hl : lv_has ls 3 [(0, .ref (eM E 0)), (1, .int (p1))] := hl
  have hS : ∃ (H : Heap) (locs : List Loc), H = s.heap ∧ locs = [] ∧ gW E M S H ∧ va_S (eA E) s.heap H locs := ⟨_, _, rfl, rfl, hW, hS⟩
  clear hW
  obtain ⟨H, locs, eH, el, hW, hS⟩ := hS
  rw [← eH, ← el]
  clear eH el
  have L39 : ∀ n : Nat, ∀ (v2 : Int32) (Z : gSm) (H : Heap) (locs : List Loc) (ls : Array Slot), (fdI n v2 Z ∧ okS Z ∧ isP p1) → q_X11_found M p1 = q_X11_found_b39 M p1 n v2 Z → gW E Z S H → va_S (eA E) s.heap H locs → lv_has ls 3 [(0, .ref (eM E 0)), (1, .int (p1)), (2, .int (v2))] → W p l e (headSpec wsX11_found ({ frames := 6, cells := 0, slots := 0, locals := 157 })).room s m ([.ref (eM E 0), .int (p1)] : List Value).toArray below meth c H locs 0 0 (MQ below (va_Qi (fun r (u : gSm) => (r, u) = q_X11_found M p1) (fun u t => gW E u S t.heap) (eA E)) ([.ref (eM E 0), .int (p1)] : List Value).toArray s 0 0 (eA E)) (F0 m 39 ls []) := by
    intro n
    induction n with
    | zero =>
      intro v2 Z H locs ls hi hq hW hS hl
      exact hi.1.z
    | succ n ih =>
      intro v2 Z H locs ls hi hq hW hS hl
      refine lv_iload_n hx hb dX11_found_39 rfl (lv_at hl 2 rfl) ?_
      refine lv_sipush (v := 300) hx hb dX11_found_40 (by decide) ?_
      refine lv_icmp_gt (tgt := 81) hx hb dX11_found_43 (by decide) (fun c43 => ?_) (fun c43 => ?_)
      · refine lv_aload_n hx hb dX11_found_81 rfl (lv_at hl 0 rfl) ?_
        refine va_get (D := eD E) (cl := vwCl) (tys := eT E) (ci := 10) (C := RX11) (T := TX11) (N := 23) (v := .int (Z.1 0 10)) hx hb hts hinX11 hown hE.1 hW.1 0 rfl rfl 10 (by decide) (hts (.fieldLink RX11 254 "DialGardenModel" "turnCount" "I") (by decide +kernel)) (fun _ h9 => h9) rfl dX11_found_82 ?_
        exact W.iret (v := Z.1 0 10) hx hb hr (fun t ht _ => ⟨⟨Z.1 0 10, Z, rfl, by rw [hq]; first | (simp only [q_X11_found_b39, if_pos c43]; done) | contradiction, by dsimp only; rw [ht]; exact hW⟩, hS.F ht⟩) hS.2.2 dX11_found_85
      · refine lv_aload_n hx hb dX11_found_46 rfl (lv_at hl 0 rfl) ?_
        refine lv_iload_n hx hb dX11_found_47 rfl (lv_at hl 1 rfl) ?_
        refine lv_iload_n hx hb dX11_found_48 rfl (lv_at hl 2 rfl) ?_
        refine va_calli (va_runV (As := [.int (p1), .int (v2)]) (rest := []) ⟨hx, hb, hml, hown, hts⟩ (c_X11_agrees l E Z S p1 v2 hi.2.2 hi.2.1.1 hi.2.1.2.1 hi.2.1.2.2.1 hi.2.1.2.2.2) (cwV 2 hts gX11_found_X11_agrees rfl rfl rfl (by decide +kernel) ⟨Nat.le_of_ble_eq_true rfl, Nat.le_of_ble_eq_true rfl⟩) (gP.V (ci := 10) (q := (RX11, TX11, 23)) (q0 := 0) hE hS hW rfl rfl) rfl rfl hl.1 rfl (lv_room (Nat.le_of_ble_eq_true rfl)) dX11_found_49 ⟨Nat.le_of_ble_eq_true rfl, Nat.le_of_ble_eq_true rfl⟩) hS (fun _ _ h => h) (fun _ h => h) (fun r49 M49 t H locs ht hvm hw hB hz1 hk1 hS => ?_)
        obtain ⟨er49, eM49⟩ := prj hw
        clear hw
        have hW : gW E M49 S H := by rw [← ht]; exact hB
        refine lv_if_eq (tgt := 75) hx hb dX11_found_52 (by decide) (fun c52 => ?_) (fun c52 => ?_)
        · obtain ⟨x75, ex75⟩ : ∃ y : Int32, y = v2 + 1 := ⟨_, rfl⟩
          refine lv_iinc (v := x75) (lv' := [(2, .int (x75)), (0, .ref (eM E 0)), (1, .int (p1))]) hx hb dX11_found_75 hl (k := 2) rfl (by rw [ex75]; rfl) (by decide) rfl (fun ls hl => ?_)
          refine lv_goto (tgt := 39) hx hb dX11_found_78 (by decide) ?_
          exact ih _ _ _ _ _ (by first | exact fd_st1 hi c43 ex75 eM49 | exact fd_st2 hi c43 ex75 eM49) (by rw [hq]; subst ex75; subst eM49; subst er49; first | (simp only [q_X11_found_b39, if_neg c43, if_pos c52]; done) | contradiction) hW hS (lv_sub hl [1, 2, 0] rfl)
        · refine lv_aload_n hx hb dX11_found_55 rfl (lv_at hl 0 rfl) ?_
          refine va_get (D := eD E) (cl := vwCl) (tys := eT E) (ci := 10) (C := RX11) (T := TX11) (N := 23) (v := .ref (eM E 6)) hx hb hts hinX11 hown hE.1 hW.1 0 rfl rfl 9 (by decide) (hts (.fieldLink RX11 29 "DialGardenModel" "turns" "[I") (by decide +kernel)) (fun _ h9 => h9) rfl dX11_found_56 ?_
          refine lv_aload_n hx hb dX11_found_59 rfl (lv_at hl 0 rfl) ?_
          refine va_get (D := eD E) (cl := vwCl) (tys := eT E) (ci := 10) (C := RX11) (T := TX11) (N := 23) (v := .int (M49.1 0 10)) hx hb hts hinX11 hown hE.1 hW.1 0 rfl rfl 10 (by decide) (hts (.fieldLink RX11 254 "DialGardenModel" "turnCount" "I") (by decide +kernel)) (fun _ h9 => h9) rfl dX11_found_60 ?_
          refine lv_iload_n hx hb dX11_found_63 rfl (lv_at hl 2 rfl) ?_
          refine va_iast (D := eD E) (cl := vwCl) (tys := eT E) (A := eA E) (f := M49.1 6) (x := v2) hx hb hE.1 hW.1 hW.2 hS 6 0 rfl rfl (fd_in hi c43 eM49) dX11_found_64 (fun H locs hP hD hS => ?_)
          have hW : gW E (pM M49 6 ((M49.1 0 10).toNatClampNeg) v2) S H := gW.of (tM_I6 E M49 S (upd (M49.1 6) ((M49.1 0 10).toNatClampNeg) v2)) hP hD
          refine lv_aload_n hx hb dX11_found_65 rfl (lv_at hl 0 rfl) ?_
          refine lv_dup hx hb dX11_found_66 rfl ?_
          refine va_get (D := eD E) (cl := vwCl) (tys := eT E) (ci := 10) (C := RX11) (T := TX11) (N := 23) (v := .int (M49.1 0 10)) hx hb hts hinX11 hown hE.1 hW.1 0 rfl rfl 10 (by decide) (hts (.fieldLink RX11 254 "DialGardenModel" "turnCount" "I") (by decide +kernel)) (fun _ h9 => h9) rfl dX11_found_67 ?_
          refine lv_iconst (v := 1) hx hb dX11_found_70 (by decide) ?_
          refine lv_iadd hx hb dX11_found_71 ?_
          refine va_put (D := eD E) (cl := vwCl) (tys := eT E) (A := eA E) (ci := 10) (C := RX11) (T := TX11) (N := 23) (v := .int ((M49.1 0 10) + 1)) (ty := .int) hx hb hts hinX11 tyX11 tyX11_ok nmX11 hown hE.1 hW.1 hW.2 hS 0 rfl rfl 10 (by decide) (hts (.fieldLink RX11 254 "DialGardenModel" "turnCount" "I") (by decide +kernel)) (fun _ h9 => h9) rfl (by decide +kernel) rfl rfl (Nat.le_of_ble_eq_true rfl) dX11_found_72 (fun H locs hP hD hS => ?_)
          have hW : gW E (pM (pM M49 6 ((M49.1 0 10).toNatClampNeg) v2) 0 10 ((M49.1 0 10) + 1)) S H := gW.of (uM_0_10 E (pM M49 6 ((M49.1 0 10).toNatClampNeg) v2) S ((M49.1 0 10) + 1)) hP hD
          obtain ⟨x75, ex75⟩ : ∃ y : Int32, y = v2 + 1 := ⟨_, rfl⟩
          refine lv_iinc (v := x75) (lv' := [(2, .int (x75)), (0, .ref (eM E 0)), (1, .int (p1))]) hx hb dX11_found_75 hl (k := 2) rfl (by rw [ex75]; rfl) (by decide) rfl (fun ls hl => ?_)
          refine lv_goto (tgt := 39) hx hb dX11_found_78 (by decide) ?_
          exact ih _ _ _ _ _ (by first | exact fd_st1 hi c43 ex75 eM49 | exact fd_st2 hi c43 ex75 eM49) (by rw [hq]; subst ex75; subst eM49; subst er49; first | (simp only [q_X11_found_b39, if_neg c43, if_neg c52]; done) | contradiction) hW hS (lv_sub hl [1, 2, 0] rfl)
  refine lv_iload_n hx hb dX11_found_0 rfl (lv_at hl 1 rfl) ?_
  refine k_Si (va_runS (As := [.int (p1)]) (rest := []) ⟨hx, hb, hml, hown, hts⟩ (c_X11_isPlace l p1) (va_cwS 1 hts gX11_found_X11_isPlace rfl rfl rfl (by decide +kernel) ⟨Nat.le_of_ble_eq_true rfl, Nat.le_of_ble_eq_true rfl⟩) gP0 rfl rfl hl.1 rfl (lv_room (Nat.le_of_ble_eq_true rfl)) dX11_found_1 ⟨Nat.le_of_ble_eq_true rfl, Nat.le_of_ble_eq_true rfl⟩) (fun r1 er1 => ?_)
  refine lv_if_ne (tgt := 10) hx hb dX11_found_4 (by decide) (fun c4 => ?_) (fun c4 => ?_)
  · refine lv_aload_n hx hb dX11_found_10 rfl (lv_at hl 0 rfl) ?_
    refine lv_iload_n hx hb dX11_found_11 rfl (lv_at hl 1 rfl) ?_
    refine lv_iconst (v := 1) hx hb dX11_found_12 (by decide) ?_
    refine k_Si (va_runV (As := [.int (p1), .int (1)]) (rest := []) ⟨hx, hb, hml, hown, hts⟩ (c_X11_isOfKind l E M S p1 1 (isPm_of er1 c4)) (cwV 2 hts gX11_found_X11_isOfKind rfl rfl rfl (by decide +kernel) ⟨Nat.le_of_ble_eq_true rfl, Nat.le_of_ble_eq_true rfl⟩) (gP.V (ci := 10) (q := (RX11, TX11, 23)) (q0 := 0) hE hS hW rfl rfl) rfl rfl hl.1 rfl (lv_room (Nat.le_of_ble_eq_true rfl)) dX11_found_13 ⟨Nat.le_of_ble_eq_true rfl, Nat.le_of_ble_eq_true rfl⟩) (fun r13 er13 => ?_)
    refine lv_if_eq (tgt := 27) hx hb dX11_found_16 (by decide) (fun c16 => ?_) (fun c16 => ?_)
    · refine lv_ldc hx hb (v := (-2000000002)) hown (hts (.constant RX11 141 (-2000000002)) (by decide +kernel)) dX11_found_27 ?_
      exact W.iret (v := (-2000000002)) hx hb hr (fun t ht _ => ⟨⟨(-2000000002), M, rfl, by subst er13; subst er1; first | (simp only [q_X11_found, if_neg c4, if_pos c16]; done) | contradiction, by dsimp only; rw [ht]; exact hW⟩, hS.F ht⟩) hS.2.2 dX11_found_29
    · refine lv_aload_n hx hb dX11_found_19 rfl (lv_at hl 0 rfl) ?_
      refine va_get (D := eD E) (cl := vwCl) (tys := eT E) (ci := 10) (C := RX11) (T := TX11) (N := 23) (v := .int (M.1 0 8)) hx hb hts hinX11 hown hE.1 hW.1 0 rfl rfl 8 (by decide) (hts (.fieldLink RX11 250 "DialGardenModel" "sightCount" "I") (by decide +kernel)) (fun _ h9 => h9) rfl dX11_found_20 ?_
      refine lv_iconst (v := 3) hx hb dX11_found_23 (by decide) ?_
      refine lv_icmp_ge (tgt := 30) hx hb dX11_found_24 (by decide) (fun c24 => ?_) (fun c24 => ?_)
      · refine lv_aload_n hx hb dX11_found_30 rfl (lv_at hl 0 rfl) ?_
        refine lv_iconst (v := 0) hx hb dX11_found_31 (by decide) ?_
        refine va_put (D := eD E) (cl := vwCl) (tys := eT E) (A := eA E) (ci := 10) (C := RX11) (T := TX11) (N := 23) (v := .int (0)) (ty := .int) hx hb hts hinX11 tyX11 tyX11_ok nmX11 hown hE.1 hW.1 hW.2 hS 0 rfl rfl 10 (by decide) (hts (.fieldLink RX11 254 "DialGardenModel" "turnCount" "I") (by decide +kernel)) (fun _ h9 => h9) rfl (by decide +kernel) rfl rfl (Nat.le_of_ble_eq_true rfl) dX11_found_32 (fun H locs hP hD hS => ?_)
        have hW : gW E (pM M 0 10 0) S H := gW.of (uM_0_10 E M S 0) hP hD
        refine lv_sipush (v := (-300)) hx hb dX11_found_35 (by decide) ?_
        refine lv_istore_n (lv' := [(2, .int ((-300))), (0, .ref (eM E 0)), (1, .int (p1))]) hx hb dX11_found_38 rfl hl (by decide) rfl (fun ls hl => ?_)
        exact L39 602 _ _ _ _ _ (by exact ⟨fd_i, ⟨hc, hs0, hs, hsd⟩, isPm_of er1 c4⟩) (by subst er13; subst er1; first | (simp only [q_X11_found, if_neg c4, if_neg c16, if_pos c24]; done) | contradiction) hW hS (lv_sub hl [1, 2, 0] rfl)
      · refine lv_ldc hx hb (v := (-2000000002)) hown (hts (.constant RX11 141 (-2000000002)) (by decide +kernel)) dX11_found_27 ?_
        exact W.iret (v := (-2000000002)) hx hb hr (fun t ht _ => ⟨⟨(-2000000002), M, rfl, by subst er13; subst er1; first | (simp only [q_X11_found, if_neg c4, if_neg c16, if_neg c24]; done) | contradiction, by dsimp only; rw [ht]; exact hW⟩, hS.F ht⟩) hS.2.2 dX11_found_29
  · refine lv_ldc hx hb (v := (-2000000001)) hown (hts (.constant RX11 73 (-2000000001)) (by decide +kernel)) dX11_found_7 ?_
    exact W.iret (v := (-2000000001)) hx hb hr (fun t ht _ => ⟨⟨(-2000000001), M, rfl, by subst er1; first | (simp only [q_X11_found, if_pos c4]; done) | contradiction, by dsimp only; rw [ht]; exact hW⟩, hS.F ht⟩) hS.2.2 dX11_found_9
