def q_X11_get (M : gSm) (p1 : Int32) (p2 : Int32) : Int32 := M.1 1 (((7 * p1) + p2).toNatClampNeg)
set_option maxHeartbeats 4000000 in
set_option maxRecDepth 100000 in
theorem c_X11_get (l : Launch) (E : gEE) (M : gSm) (S : gSc) (p1 : Int32) (p2 : Int32) (hin : vp_in (7 * p1 + p2) 280) : Met l yX11_get wsX11_get ({ frames := 0, cells := 0, slots := 0, locals := 0 }) (va_Pc [.ref (eM E 0), .int (p1), .int (p2)] (gP E M S)) (vp_Si (fun r => r = q_X11_get M p1 p2)) 0 0 (fun _ => False) := by
  refine Met.ofW (cc := cX11_get) (maxL := 3) (ret := (some .int)) (by decide) rfl ?_
  intro p e s m args below meth c s₁ B hml hv
  obtain ⟨rfl, hE, hW⟩ := hv
  have hx := B.exec
  have hb := B.bytes
  have hr := B.returns
  have hts := atoms_spec (ws := wsX11_get) B.pre
  have hown : s.vm.findClass RX11 = some m.cls := findClass_of_methodNamed B.named
  have hlocks := B.notSynchronized
  have hinX11 : ∀ w ∈ wsX110, w ∈ wsX11_get := by decide +kernel
  have hS : va_S (eA E) s.heap s.heap [] := va_S.rf
  have hl := lv_entry ([.ref (eM E 0), .int (p1), .int (p2)]) (n := 3) (Nat.le_of_ble_eq_true rfl)
  rw [lg_entry_eq]
  generalize (lg_sl ([.ref (eM E 0), .int (p1), .int (p2)]) ++ List.replicate (3 - (lg_sl ([.ref (eM E 0), .int (p1), .int (p2)])).length) Slot.unset).toArray = ls at hl ⊢
  have hl : lv_has ls 3 [(0, .ref (eM E 0)), (1, .int (p1)), (2, .int (p2))] := hl
  refine lv_aload_n hx hb dX11_get_0 rfl (lv_at hl 0 rfl) ?_
  refine va_get (D := eD E) (cl := vwCl) (tys := eT E) (ci := 10) (C := RX11) (T := TX11) (N := 23) (v := .ref (eM E 1)) hx hb hts hinX11 hown hE.1 hW.1 0 rfl rfl 0 (by decide) (hts (.fieldLink RX11 7 "DialGardenModel" "garden" "[I") (by decide +kernel)) (fun _ h9 => h9) rfl dX11_get_1 ?_
  refine lv_bipush (v := 7) hx hb dX11_get_4 (by decide) ?_
  refine lv_iload_n hx hb dX11_get_6 rfl (lv_at hl 1 rfl) ?_
  refine lv_imul hx hb dX11_get_7 ?_
  refine lv_iload_n hx hb dX11_get_8 rfl (lv_at hl 2 rfl) ?_
  refine lv_iadd hx hb dX11_get_9 ?_
  refine va_iald (D := eD E) (cl := vwCl) (tys := eT E) (f := M.1 1) hx hb hE.1 hW.1 1 0 rfl rfl hin dX11_get_10 ?_
  exact W.iret (v := M.1 1 (((7 * p1) + p2).toNatClampNeg)) hx hb hr (fun t ht _ => ⟨M.1 1 (((7 * p1) + p2).toNatClampNeg), rfl, by first | (simp only [q_X11_get]; done) | contradiction, ht⟩) (fun _ h => nomatch h) dX11_get_11

def q_X11_put (M : gSm) (p1 : Int32) (p2 : Int32) (p3 : Int32) : gSm := pM M 1 (((7 * p1) + p2).toNatClampNeg) p3
set_option maxHeartbeats 4000000 in
set_option maxRecDepth 100000 in
theorem c_X11_put (l : Launch) (E : gEE) (M : gSm) (S : gSc) (p1 : Int32) (p2 : Int32) (p3 : Int32) (hin : vp_in (7 * p1 + p2) 280) : Met l yX11_put wsX11_put ({ frames := 0, cells := 0, slots := 0, locals := 0 }) (va_Pc [.ref (eM E 0), .int (p1), .int (p2), .int (p3)] (gP E M S)) (va_Qv (fun u : gSm => u = q_X11_put M p1 p2 p3) (fun u t => gW E u S t.heap) (eA E)) 0 0 (eA E) := by
  refine Met.ofW (cc := cX11_put) (maxL := 4) (ret := none) (by decide) rfl ?_
  intro p e s m args below meth c s₁ B hml hv
  obtain ⟨rfl, hE, hW⟩ := hv
  have hx := B.exec
  have hb := B.bytes
  have hr := B.returns
  have hts := atoms_spec (ws := wsX11_put) B.pre
  have hown : s.vm.findClass RX11 = some m.cls := findClass_of_methodNamed B.named
  have hlocks := B.notSynchronized
  have hinX11 : ∀ w ∈ wsX110, w ∈ wsX11_put := by decide +kernel
  have hS : va_S (eA E) s.heap s.heap [] := va_S.rf
  have hl := lv_entry ([.ref (eM E 0), .int (p1), .int (p2), .int (p3)]) (n := 4) (Nat.le_of_ble_eq_true rfl)
  rw [lg_entry_eq]
  generalize (lg_sl ([.ref (eM E 0), .int (p1), .int (p2), .int (p3)]) ++ List.replicate (4 - (lg_sl ([.ref (eM E 0), .int (p1), .int (p2), .int (p3)])).length) Slot.unset).toArray = ls at hl ⊢
  have hl : lv_has ls 4 [(0, .ref (eM E 0)), (1, .int (p1)), (2, .int (p2)), (3, .int (p3))] := hl
  have hS : ∃ (H : Heap) (locs : List Loc), H = s.heap ∧ locs = [] ∧ gW E M S H ∧ va_S (eA E) s.heap H locs := ⟨_, _, rfl, rfl, hW, hS⟩
  clear hW
  obtain ⟨H, locs, eH, el, hW, hS⟩ := hS
  rw [← eH, ← el]
  clear eH el
  refine lv_aload_n hx hb dX11_put_0 rfl (lv_at hl 0 rfl) ?_
  refine va_get (D := eD E) (cl := vwCl) (tys := eT E) (ci := 10) (C := RX11) (T := TX11) (N := 23) (v := .ref (eM E 1)) hx hb hts hinX11 hown hE.1 hW.1 0 rfl rfl 0 (by decide) (hts (.fieldLink RX11 7 "DialGardenModel" "garden" "[I") (by decide +kernel)) (fun _ h9 => h9) rfl dX11_put_1 ?_
  refine lv_bipush (v := 7) hx hb dX11_put_4 (by decide) ?_
  refine lv_iload_n hx hb dX11_put_6 rfl (lv_at hl 1 rfl) ?_
  refine lv_imul hx hb dX11_put_7 ?_
  refine lv_iload_n hx hb dX11_put_8 rfl (lv_at hl 2 rfl) ?_
  refine lv_iadd hx hb dX11_put_9 ?_
  refine lv_iload_n hx hb dX11_put_10 rfl (lv_at hl 3 rfl) ?_
  refine va_iast (D := eD E) (cl := vwCl) (tys := eT E) (A := eA E) (f := M.1 1) (x := p3) hx hb hE.1 hW.1 hW.2 hS 1 0 rfl rfl hin dX11_put_11 (fun H locs hP hD hS => ?_)
  have hW : gW E (pM M 1 (((7 * p1) + p2).toNatClampNeg) p3) S H := gW.of (tM_I1 E M S (upd (M.1 1) (((7 * p1) + p2).toNatClampNeg) p3)) hP hD
  exact W.vret hx hb hr (fun t ht _ => ⟨⟨pM M 1 (((7 * p1) + p2).toNatClampNeg) p3, rfl, by first | (simp only [q_X11_put]; done) | contradiction, by dsimp only; rw [ht]; exact hW⟩, hS.F ht⟩) hS.2.2 dX11_put_12

def q_X11_isDial (M : gSm) (p1 : Int32) : Int32 := (let r3 := q_X11_get M p1 0; (if r3 < 2 then 0 else 1))
set_option maxHeartbeats 4000000 in
set_option maxRecDepth 100000 in
theorem c_X11_isDial (l : Launch) (E : gEE) (M : gSm) (S : gSc) (p1 : Int32) (hp : isP p1) : Met l yX11_isDial wsX11_isDial ({ frames := 1, cells := 0, slots := 0, locals := 22 }) (va_Pc [.ref (eM E 0), .int (p1)] (gP E M S)) (vp_Si (fun r => r = q_X11_isDial M p1)) 0 0 (fun _ => False) := by
  refine Met.ofW (cc := cX11_isDial) (maxL := 2) (ret := (some .boolean)) (by decide) rfl ?_
  intro p e s m args below meth c s₁ B hml hv
  obtain ⟨rfl, hE, hW⟩ := hv
  have hx := B.exec
  have hb := B.bytes
  have hr := B.returns
  have hts := atoms_spec (ws := wsX11_isDial) B.pre
  have hown : s.vm.findClass RX11 = some m.cls := findClass_of_methodNamed B.named
  have hlocks := B.notSynchronized
  have hS : va_S (eA E) s.heap s.heap [] := va_S.rf
  have hl := lv_entry ([.ref (eM E 0), .int (p1)]) (n := 2) (Nat.le_of_ble_eq_true rfl)
  rw [lg_entry_eq]
  generalize (lg_sl ([.ref (eM E 0), .int (p1)]) ++ List.replicate (2 - (lg_sl ([.ref (eM E 0), .int (p1)])).length) Slot.unset).toArray = ls at hl ⊢
  have hl : lv_has ls 2 [(0, .ref (eM E 0)), (1, .int (p1))] := hl
  refine lv_aload_n hx hb dX11_isDial_0 rfl (lv_at hl 0 rfl) ?_
  refine lv_iload_n hx hb dX11_isDial_1 rfl (lv_at hl 1 rfl) ?_
  refine lv_iconst (v := 0) hx hb dX11_isDial_2 (by decide) ?_
  refine k_Si (va_runV (As := [.int (p1), .int (0)]) (rest := []) ⟨hx, hb, hml, hown, hts⟩ (c_X11_get l E M S p1 0 (gx hp (by decide))) (cwV 2 hts gX11_isDial_X11_get rfl rfl rfl (by decide +kernel) ⟨Nat.le_of_ble_eq_true rfl, Nat.le_of_ble_eq_true rfl⟩) (gP.V (ci := 10) (q := (RX11, TX11, 23)) (q0 := 0) hE hS hW rfl rfl) rfl rfl hl.1 rfl (lv_room (Nat.le_of_ble_eq_true rfl)) dX11_isDial_3 ⟨Nat.le_of_ble_eq_true rfl, Nat.le_of_ble_eq_true rfl⟩) (fun r3 er3 => ?_)
  refine lv_iconst (v := 2) hx hb dX11_isDial_6 (by decide) ?_
  refine lv_icmp_lt (tgt := 14) hx hb dX11_isDial_7 (by decide) (fun c7 => ?_) (fun c7 => ?_)
  · refine lv_iconst (v := 0) hx hb dX11_isDial_14 (by decide) ?_
    exact W.zret (v := 0) hx hb hr rfl (fun t ht _ => ⟨0, rfl, by subst er3; first | (simp only [q_X11_isDial, if_pos c7]; done) | contradiction, ht⟩) (fun _ h => nomatch h) dX11_isDial_15
  · refine lv_iconst (v := 1) hx hb dX11_isDial_10 (by decide) ?_
    refine lv_goto (tgt := 15) hx hb dX11_isDial_11 (by decide) ?_
    exact W.zret (v := 1) hx hb hr rfl (fun t ht _ => ⟨1, rfl, by subst er3; first | (simp only [q_X11_isDial, if_neg c7]; done) | contradiction, ht⟩) (fun _ h => nomatch h) dX11_isDial_15
theorem qb_X11_isDial (M : gSm) (p1 : Int32) : q_X11_isDial M p1 = 0 ∨ q_X11_isDial M p1 = 1 := by
  unfold q_X11_isDial
  repeat' (first | exact Or.inl rfl | exact Or.inr rfl | split | (simp only []; split))

def q_X11_isOfKind (M : gSm) (p1 : Int32) (p2 : Int32) : Int32 := (let r3 := q_X11_get M p1 0; (let x8 := r3 - 2; (if x8 < 0 then 0 else (if x8 = p2 then 1 else (if p2 = 0 then 1 else (if p2 = 1 then (if x8 = 2 then 1 else (if x8 = 4 then 1 else (if p2 = 2 then (if x8 = 4 then 1 else 0) else 0))) else (if p2 = 2 then (if x8 = 4 then 1 else 0) else 0)))))))
set_option maxHeartbeats 4000000 in
set_option maxRecDepth 100000 in
theorem c_X11_isOfKind (l : Launch) (E : gEE) (M : gSm) (S : gSc) (p1 : Int32) (p2 : Int32) (hp : isP p1) : Met l yX11_isOfKind wsX11_isOfKind ({ frames := 1, cells := 0, slots := 0, locals := 22 }) (va_Pc [.ref (eM E 0), .int (p1), .int (p2)] (gP E M S)) (vp_Si (fun r => r = q_X11_isOfKind M p1 p2)) 0 0 (fun _ => False) := by
  refine Met.ofW (cc := cX11_isOfKind) (maxL := 4) (ret := (some .boolean)) (by decide) rfl ?_
  intro p e s m args below meth c s₁ B hml hv
  obtain ⟨rfl, hE, hW⟩ := hv
  have hx := B.exec
  have hb := B.bytes
  have hr := B.returns
  have hts := atoms_spec (ws := wsX11_isOfKind) B.pre
  have hown : s.vm.findClass RX11 = some m.cls := findClass_of_methodNamed B.named
  have hlocks := B.notSynchronized
  have hS : va_S (eA E) s.heap s.heap [] := va_S.rf
  have hl := lv_entry ([.ref (eM E 0), .int (p1), .int (p2)]) (n := 4) (Nat.le_of_ble_eq_true rfl)
  rw [lg_entry_eq]
  generalize (lg_sl ([.ref (eM E 0), .int (p1), .int (p2)]) ++ List.replicate (4 - (lg_sl ([.ref (eM E 0), .int (p1), .int (p2)])).length) Slot.unset).toArray = ls at hl ⊢
  have hl : lv_has ls 4 [(0, .ref (eM E 0)), (1, .int (p1)), (2, .int (p2))] := hl
  refine lv_aload_n hx hb dX11_isOfKind_0 rfl (lv_at hl 0 rfl) ?_
  refine lv_iload_n hx hb dX11_isOfKind_1 rfl (lv_at hl 1 rfl) ?_
  refine lv_iconst (v := 0) hx hb dX11_isOfKind_2 (by decide) ?_
  refine k_Si (va_runV (As := [.int (p1), .int (0)]) (rest := []) ⟨hx, hb, hml, hown, hts⟩ (c_X11_get l E M S p1 0 (gx hp (by decide))) (cwV 2 hts gX11_isOfKind_X11_get rfl rfl rfl (by decide +kernel) ⟨Nat.le_of_ble_eq_true rfl, Nat.le_of_ble_eq_true rfl⟩) (gP.V (ci := 10) (q := (RX11, TX11, 23)) (q0 := 0) hE hS hW rfl rfl) rfl rfl hl.1 rfl (lv_room (Nat.le_of_ble_eq_true rfl)) dX11_isOfKind_3 ⟨Nat.le_of_ble_eq_true rfl, Nat.le_of_ble_eq_true rfl⟩) (fun r3 er3 => ?_)
  refine lv_iconst (v := 2) hx hb dX11_isOfKind_6 (by decide) ?_
  refine lv_isub hx hb dX11_isOfKind_7 ?_
  refine lv_topi (fun x8 ex8 => ?_)
  refine lv_istore_n (lv' := [(3, .int (x8)), (0, .ref (eM E 0)), (1, .int (p1)), (2, .int (p2))]) hx hb dX11_isOfKind_8 rfl hl (by decide) rfl (fun ls hl => ?_)
  refine lv_iload_n hx hb dX11_isOfKind_9 rfl (lv_at hl 0 rfl) ?_
  refine lv_if_lt (tgt := 51) hx hb dX11_isOfKind_10 (by decide) (fun c10 => ?_) (fun c10 => ?_)
  · refine lv_iconst (v := 0) hx hb dX11_isOfKind_51 (by decide) ?_
    exact W.zret (v := 0) hx hb hr rfl (fun t ht _ => ⟨0, rfl, by subst ex8; subst er3; first | (simp only [q_X11_isOfKind, if_pos c10]; done) | contradiction, ht⟩) (fun _ h => nomatch h) dX11_isOfKind_52
  · refine lv_iload_n hx hb dX11_isOfKind_13 rfl (lv_at hl 0 rfl) ?_
    refine lv_iload_n hx hb dX11_isOfKind_14 rfl (lv_at hl 3 rfl) ?_
    refine lv_icmp_eq (tgt := 47) hx hb dX11_isOfKind_15 (by decide) (fun c15 => ?_) (fun c15 => ?_)
    · refine lv_iconst (v := 1) hx hb dX11_isOfKind_47 (by decide) ?_
      refine lv_goto (tgt := 52) hx hb dX11_isOfKind_48 (by decide) ?_
      exact W.zret (v := 1) hx hb hr rfl (fun t ht _ => ⟨1, rfl, by subst ex8; subst er3; first | (simp only [q_X11_isOfKind, if_neg c10, if_pos c15]; done) | contradiction, ht⟩) (fun _ h => nomatch h) dX11_isOfKind_52
    · refine lv_iload_n hx hb dX11_isOfKind_18 rfl (lv_at hl 3 rfl) ?_
      refine lv_if_eq (tgt := 47) hx hb dX11_isOfKind_19 (by decide) (fun c19 => ?_) (fun c19 => ?_)
      · refine lv_iconst (v := 1) hx hb dX11_isOfKind_47 (by decide) ?_
        refine lv_goto (tgt := 52) hx hb dX11_isOfKind_48 (by decide) ?_
        exact W.zret (v := 1) hx hb hr rfl (fun t ht _ => ⟨1, rfl, by subst ex8; subst er3; first | (simp only [q_X11_isOfKind, if_neg c10, if_neg c15, if_pos c19]; done) | contradiction, ht⟩) (fun _ h => nomatch h) dX11_isOfKind_52
      · refine lv_iload_n hx hb dX11_isOfKind_22 rfl (lv_at hl 3 rfl) ?_
        refine lv_iconst (v := 1) hx hb dX11_isOfKind_23 (by decide) ?_
        refine lv_icmp_ne (tgt := 37) hx hb dX11_isOfKind_24 (by decide) (fun c24 => ?_) (fun c24 => ?_)
        · refine lv_iload_n hx hb dX11_isOfKind_37 rfl (lv_at hl 3 rfl) ?_
          refine lv_iconst (v := 2) hx hb dX11_isOfKind_38 (by decide) ?_
          refine lv_icmp_ne (tgt := 51) hx hb dX11_isOfKind_39 (by decide) (fun c39 => ?_) (fun c39 => ?_)
          · refine lv_iconst (v := 0) hx hb dX11_isOfKind_51 (by decide) ?_
            exact W.zret (v := 0) hx hb hr rfl (fun t ht _ => ⟨0, rfl, by subst ex8; subst er3; first | (simp only [q_X11_isOfKind, if_neg c10, if_neg c15, if_neg c19, if_neg c24, if_neg c39]; done) | contradiction, ht⟩) (fun _ h => nomatch h) dX11_isOfKind_52
          · refine lv_iload_n hx hb dX11_isOfKind_42 rfl (lv_at hl 0 rfl) ?_
            refine lv_iconst (v := 4) hx hb dX11_isOfKind_43 (by decide) ?_
            refine lv_icmp_ne (tgt := 51) hx hb dX11_isOfKind_44 (by decide) (fun c44 => ?_) (fun c44 => ?_)
            · refine lv_iconst (v := 0) hx hb dX11_isOfKind_51 (by decide) ?_
              exact W.zret (v := 0) hx hb hr rfl (fun t ht _ => ⟨0, rfl, by subst ex8; subst er3; first | (simp only [q_X11_isOfKind, if_neg c10, if_neg c15, if_neg c19, if_neg c24, if_pos c39, if_neg c44]; done) | contradiction, ht⟩) (fun _ h => nomatch h) dX11_isOfKind_52
            · refine lv_iconst (v := 1) hx hb dX11_isOfKind_47 (by decide) ?_
              refine lv_goto (tgt := 52) hx hb dX11_isOfKind_48 (by decide) ?_
              exact W.zret (v := 1) hx hb hr rfl (fun t ht _ => ⟨1, rfl, by subst ex8; subst er3; first | (simp only [q_X11_isOfKind, if_neg c10, if_neg c15, if_neg c19, if_neg c24, if_pos c39, if_pos c44]; done) | contradiction, ht⟩) (fun _ h => nomatch h) dX11_isOfKind_52
        · refine lv_iload_n hx hb dX11_isOfKind_27 rfl (lv_at hl 0 rfl) ?_
          refine lv_iconst (v := 2) hx hb dX11_isOfKind_28 (by decide) ?_
          refine lv_icmp_eq (tgt := 47) hx hb dX11_isOfKind_29 (by decide) (fun c29 => ?_) (fun c29 => ?_)
          · refine lv_iconst (v := 1) hx hb dX11_isOfKind_47 (by decide) ?_
            refine lv_goto (tgt := 52) hx hb dX11_isOfKind_48 (by decide) ?_
            exact W.zret (v := 1) hx hb hr rfl (fun t ht _ => ⟨1, rfl, by subst ex8; subst er3; first | (simp only [q_X11_isOfKind, if_neg c10, if_neg c15, if_neg c19, if_pos c24, if_pos c29]; done) | contradiction, ht⟩) (fun _ h => nomatch h) dX11_isOfKind_52
          · refine lv_iload_n hx hb dX11_isOfKind_32 rfl (lv_at hl 0 rfl) ?_
            refine lv_iconst (v := 4) hx hb dX11_isOfKind_33 (by decide) ?_
            refine lv_icmp_eq (tgt := 47) hx hb dX11_isOfKind_34 (by decide) (fun c34 => ?_) (fun c34 => ?_)
            · refine lv_iconst (v := 1) hx hb dX11_isOfKind_47 (by decide) ?_
              refine lv_goto (tgt := 52) hx hb dX11_isOfKind_48 (by decide) ?_
              exact W.zret (v := 1) hx hb hr rfl (fun t ht _ => ⟨1, rfl, by subst ex8; subst er3; first | (simp only [q_X11_isOfKind, if_neg c10, if_neg c15, if_neg c19, if_pos c24, if_neg c29, if_pos c34]; done) | contradiction, ht⟩) (fun _ h => nomatch h) dX11_isOfKind_52
            · refine lv_iload_n hx hb dX11_isOfKind_37 rfl (lv_at hl 3 rfl) ?_
              refine lv_iconst (v := 2) hx hb dX11_isOfKind_38 (by decide) ?_
              refine lv_icmp_ne (tgt := 51) hx hb dX11_isOfKind_39 (by decide) (fun c39 => ?_) (fun c39 => ?_)
              · refine lv_iconst (v := 0) hx hb dX11_isOfKind_51 (by decide) ?_
                exact W.zret (v := 0) hx hb hr rfl (fun t ht _ => ⟨0, rfl, by subst ex8; subst er3; first | (simp only [q_X11_isOfKind, if_neg c10, if_neg c15, if_neg c19, if_pos c24, if_neg c29, if_neg c34, if_neg c39]; done) | contradiction, ht⟩) (fun _ h => nomatch h) dX11_isOfKind_52
              · refine lv_iload_n hx hb dX11_isOfKind_42 rfl (lv_at hl 0 rfl) ?_
                refine lv_iconst (v := 4) hx hb dX11_isOfKind_43 (by decide) ?_
                refine lv_icmp_ne (tgt := 51) hx hb dX11_isOfKind_44 (by decide) (fun c44 => ?_) (fun c44 => ?_)
                · refine lv_iconst (v := 0) hx hb dX11_isOfKind_51 (by decide) ?_
                  exact W.zret (v := 0) hx hb hr rfl (fun t ht _ => ⟨0, rfl, by subst ex8; subst er3; first | (simp only [q_X11_isOfKind, if_neg c10, if_neg c15, if_neg c19, if_pos c24, if_neg c29, if_neg c34, if_pos c39, if_neg c44]; done) | contradiction, ht⟩) (fun _ h => nomatch h) dX11_isOfKind_52
                · refine lv_iconst (v := 1) hx hb dX11_isOfKind_47 (by decide) ?_
                  refine lv_goto (tgt := 52) hx hb dX11_isOfKind_48 (by decide) ?_
                  exact W.zret (v := 1) hx hb hr rfl (fun t ht _ => ⟨1, rfl, by subst ex8; subst er3; first | (simp only [q_X11_isOfKind, if_neg c10, if_neg c15, if_neg c19, if_pos c24, if_neg c29, if_neg c34, if_pos c39, if_pos c44]; done) | contradiction, ht⟩) (fun _ h => nomatch h) dX11_isOfKind_52
theorem qb_X11_isOfKind (M : gSm) (p1 : Int32) (p2 : Int32) : q_X11_isOfKind M p1 p2 = 0 ∨ q_X11_isOfKind M p1 p2 = 1 := by
  unfold q_X11_isOfKind
  repeat' (first | exact Or.inl rfl | exact Or.inr rfl | split | (simp only []; split))

def q_X11_correctionOf (M : gSm) (p1 : Int32) : Int32 := (if (M.1 0 6) ≤ p1 then 0 else M.1 4 (p1.toNatClampNeg))
set_option maxHeartbeats 4000000 in
set_option maxRecDepth 100000 in
theorem c_X11_correctionOf (l : Launch) (E : gEE) (M : gSm) (S : gSc) (p1 : Int32) (hd : 0 ≤ p1.toInt) (hc : (M.1 0 6).toInt ≤ 366) : Met l yX11_correctionOf wsX11_correctionOf ({ frames := 0, cells := 0, slots := 0, locals := 0 }) (va_Pc [.ref (eM E 0), .int (p1)] (gP E M S)) (vp_Si (fun r => r = q_X11_correctionOf M p1)) 0 0 (fun _ => False) := by
  refine Met.ofW (cc := cX11_correctionOf) (maxL := 2) (ret := (some .int)) (by decide) rfl ?_
  intro p e s m args below meth c s₁ B hml hv
  obtain ⟨rfl, hE, hW⟩ := hv
  have hx := B.exec
  have hb := B.bytes
  have hr := B.returns
  have hts := atoms_spec (ws := wsX11_correctionOf) B.pre
  have hown : s.vm.findClass RX11 = some m.cls := findClass_of_methodNamed B.named
  have hlocks := B.notSynchronized
  have hinX11 : ∀ w ∈ wsX110, w ∈ wsX11_correctionOf := by decide +kernel
  have hS : va_S (eA E) s.heap s.heap [] := va_S.rf
  have hl := lv_entry ([.ref (eM E 0), .int (p1)]) (n := 2) (Nat.le_of_ble_eq_true rfl)
  rw [lg_entry_eq]
  generalize (lg_sl ([.ref (eM E 0), .int (p1)]) ++ List.replicate (2 - (lg_sl ([.ref (eM E 0), .int (p1)])).length) Slot.unset).toArray = ls at hl ⊢
  have hl : lv_has ls 2 [(0, .ref (eM E 0)), (1, .int (p1))] := hl
  refine lv_iload_n hx hb dX11_correctionOf_0 rfl (lv_at hl 1 rfl) ?_
  refine lv_aload_n hx hb dX11_correctionOf_1 rfl (lv_at hl 0 rfl) ?_
  refine va_get (D := eD E) (cl := vwCl) (tys := eT E) (ci := 10) (C := RX11) (T := TX11) (N := 23) (v := .int (M.1 0 6)) hx hb hts hinX11 hown hE.1 hW.1 0 rfl rfl 6 (by decide) (hts (.fieldLink RX11 76 "DialGardenModel" "correctionCount" "I") (by decide +kernel)) (fun _ h9 => h9) rfl dX11_correctionOf_2 ?_
  refine lv_icmp_ge (tgt := 17) hx hb dX11_correctionOf_5 (by decide) (fun c5 => ?_) (fun c5 => ?_)
  · refine lv_iconst (v := 0) hx hb dX11_correctionOf_17 (by decide) ?_
    exact W.iret (v := 0) hx hb hr (fun t ht _ => ⟨0, rfl, by first | (simp only [q_X11_correctionOf, if_pos c5]; done) | contradiction, ht⟩) (fun _ h => nomatch h) dX11_correctionOf_18
  · refine lv_aload_n hx hb dX11_correctionOf_8 rfl (lv_at hl 0 rfl) ?_
    refine va_get (D := eD E) (cl := vwCl) (tys := eT E) (ci := 10) (C := RX11) (T := TX11) (N := 23) (v := .ref (eM E 4)) hx hb hts hinX11 hown hE.1 hW.1 0 rfl rfl 5 (by decide) (hts (.fieldLink RX11 23 "DialGardenModel" "corrections" "[I") (by decide +kernel)) (fun _ h9 => h9) rfl dX11_correctionOf_9 ?_
    refine lv_iload_n hx hb dX11_correctionOf_12 rfl (lv_at hl 1 rfl) ?_
    refine va_iald (D := eD E) (cl := vwCl) (tys := eT E) (f := M.1 4) hx hb hE.1 hW.1 4 0 rfl rfl (cr_in hd hc c5) dX11_correctionOf_13 ?_
    refine lv_goto (tgt := 18) hx hb dX11_correctionOf_14 (by decide) ?_
    exact W.iret (v := M.1 4 (p1.toNatClampNeg)) hx hb hr (fun t ht _ => ⟨M.1 4 (p1.toNatClampNeg), rfl, by first | (simp only [q_X11_correctionOf, if_neg c5]; done) | contradiction, ht⟩) (fun _ h => nomatch h) dX11_correctionOf_18

def q_X11_turnOf (M : gSm) (p1 : Int32) (p2 : Int32) : Int64 := (let r6 := q_X11_correctionOf M p1; (let r19 := q_X11_down (2048 * (((p2 + r6) - 720).toInt64)) 45; r19))
set_option maxHeartbeats 4000000 in
set_option maxRecDepth 100000 in
theorem c_X11_turnOf (l : Launch) (E : gEE) (M : gSm) (S : gSc) (p1 : Int32) (p2 : Int32) (hd : 0 ≤ p1.toInt) (hc : (M.1 0 6).toInt ≤ 366) : Met l yX11_turnOf wsX11_turnOf ({ frames := 1, cells := 0, slots := 0, locals := 25 }) (va_Pc [.ref (eM E 0), .int (p1), .int (p2)] (gP E M S)) (vp_Sl (fun r => r = q_X11_turnOf M p1 p2)) 0 0 (fun _ => False) := by
  refine Met.ofW (cc := cX11_turnOf) (maxL := 3) (ret := (some .long)) (by decide) rfl ?_
  intro p e s m args below meth c s₁ B hml hv
  obtain ⟨rfl, hE, hW⟩ := hv
  have hx := B.exec
  have hb := B.bytes
  have hr := B.returns
  have hts := atoms_spec (ws := wsX11_turnOf) B.pre
  have hown : s.vm.findClass RX11 = some m.cls := findClass_of_methodNamed B.named
  have hlocks := B.notSynchronized
  have hS : va_S (eA E) s.heap s.heap [] := va_S.rf
  have hl := lv_entry ([.ref (eM E 0), .int (p1), .int (p2)]) (n := 3) (Nat.le_of_ble_eq_true rfl)
  rw [lg_entry_eq]
  generalize (lg_sl ([.ref (eM E 0), .int (p1), .int (p2)]) ++ List.replicate (3 - (lg_sl ([.ref (eM E 0), .int (p1), .int (p2)])).length) Slot.unset).toArray = ls at hl ⊢
  have hl : lv_has ls 3 [(0, .ref (eM E 0)), (1, .int (p1)), (2, .int (p2))] := hl
  refine lv_ldc2 hx hb (v := 2048) hown (hts (.constantLong RX11 92 (2048)) (by decide +kernel)) dX11_turnOf_0 ?_
  refine lv_iload_n hx hb dX11_turnOf_3 rfl (lv_at hl 2 rfl) ?_
  refine lv_aload_n hx hb dX11_turnOf_4 rfl (lv_at hl 0 rfl) ?_
  refine lv_iload_n hx hb dX11_turnOf_5 rfl (lv_at hl 1 rfl) ?_
  refine k_Si (va_runV (As := [.int (p1)]) (rest := [.int (p2), .long (2048)]) ⟨hx, hb, hml, hown, hts⟩ (c_X11_correctionOf l E M S p1 hd hc) (cwV 1 hts gX11_turnOf_X11_correctionOf rfl rfl rfl (by decide +kernel) ⟨Nat.le_of_ble_eq_true rfl, Nat.le_of_ble_eq_true rfl⟩) (gP.V (ci := 10) (q := (RX11, TX11, 23)) (q0 := 0) hE hS hW rfl rfl) rfl rfl hl.1 rfl (lv_room (Nat.le_of_ble_eq_true rfl)) dX11_turnOf_6 ⟨Nat.le_of_ble_eq_true rfl, Nat.le_of_ble_eq_true rfl⟩) (fun r6 er6 => ?_)
  refine lv_iadd hx hb dX11_turnOf_9 ?_
  refine lv_sipush (v := 720) hx hb dX11_turnOf_10 (by decide) ?_
  refine lv_isub hx hb dX11_turnOf_13 ?_
  refine lv_i2l (v := ((p2 + r6) - 720).toInt64) hx hb dX11_turnOf_14 rfl ?_
  refine lv_lmul hx hb dX11_turnOf_15 ?_
  refine lv_ldc2 hx hb (v := 45) hown (hts (.constantLong RX11 98 (45)) (by decide +kernel)) dX11_turnOf_16 ?_
  refine k_Sl (va_runS (As := [.long (2048 * (((p2 + r6) - 720).toInt64)), .long (45)]) (rest := []) ⟨hx, hb, hml, hown, hts⟩ (c_X11_down l (2048 * (((p2 + r6) - 720).toInt64)) 45 (by decide)) (va_cwS 2 hts gX11_turnOf_X11_down rfl rfl rfl (by decide +kernel) ⟨Nat.le_of_ble_eq_true rfl, Nat.le_of_ble_eq_true rfl⟩) gP0 rfl rfl hl.1 rfl (lv_room (Nat.le_of_ble_eq_true rfl)) dX11_turnOf_19 ⟨Nat.le_of_ble_eq_true rfl, Nat.le_of_ble_eq_true rfl⟩) (fun r19 er19 => ?_)
  exact W.lret (v := r19) hx hb hr (fun t ht _ => ⟨r19, rfl, by subst er19; subst er6; first | (simp only [q_X11_turnOf]; done) | contradiction, ht⟩) (fun _ h => nomatch h) dX11_turnOf_22

def q_X11_look (M : gSm) (p1 : Int32) (p2 : Int32) : gSm := (let r1 := q_X11_slopeOf p1; (let r8 := q_X11_turnOf M p1 p2; (let r18 := q_X11_sineOf ((M.1 0 4).toInt64); (let r28 := q_X11_cosineOf ((M.1 0 4).toInt64); (let r34 := q_X11_sineOf r1; (let r40 := q_X11_cosineOf r1; (let r47 := q_X11_sineOf r8; (let r54 := q_X11_cosineOf r8; (let r64 := q_X11_times r40 r47; (let r76 := q_X11_times r28 r34; (let r83 := q_X11_times r18 r40; (let r88 := q_X11_times r83 r54; (let r100 := q_X11_times r18 r34; (let r107 := q_X11_times r28 r40; (let r112 := q_X11_times r107 r54; pJ (pJ (pJ M 0 11 (-r64)) 0 12 (r76 - r88)) 0 13 (r100 + r112))))))))))))))))
set_option maxHeartbeats 4000000 in
set_option maxRecDepth 100000 in
theorem c_X11_look (l : Launch) (E : gEE) (M : gSm) (S : gSc) (p1 : Int32) (p2 : Int32) (hd : 0 ≤ p1.toInt) (hc : (M.1 0 6).toInt ≤ 366) : Met l yX11_look wsX11_look ({ frames := 3, cells := 0, slots := 0, locals := 68 }) (va_Pc [.ref (eM E 0), .int (p1), .int (p2)] (gP E M S)) (va_Qv (fun u : gSm => u = q_X11_look M p1 p2) (fun u t => gW E u S t.heap) (eA E)) 0 0 (eA E) := by
  refine Met.ofW (cc := cX11_look) (maxL := 19) (ret := none) (by decide) rfl ?_
  intro p e s m args below meth c s₁ B hml hv
  obtain ⟨rfl, hE, hW⟩ := hv
  have hx := B.exec
  have hb := B.bytes
  have hr := B.returns
  have hts := atoms_spec (ws := wsX11_look) B.pre
  have hown : s.vm.findClass RX11 = some m.cls := findClass_of_methodNamed B.named
  have hlocks := B.notSynchronized
  have hinX11 : ∀ w ∈ wsX110, w ∈ wsX11_look := by decide +kernel
  have hS : va_S (eA E) s.heap s.heap [] := va_S.rf
  have hl := lv_entry ([.ref (eM E 0), .int (p1), .int (p2)]) (n := 19) (Nat.le_of_ble_eq_true rfl)
  rw [lg_entry_eq]
  generalize (lg_sl ([.ref (eM E 0), .int (p1), .int (p2)]) ++ List.replicate (19 - (lg_sl ([.ref (eM E 0), .int (p1), .int (p2)])).length) Slot.unset).toArray = ls at hl ⊢
  have hl : lv_has ls 19 [(0, .ref (eM E 0)), (1, .int (p1)), (2, .int (p2))] := hl
  have hS : ∃ (H : Heap) (locs : List Loc), H = s.heap ∧ locs = [] ∧ gW E M S H ∧ va_S (eA E) s.heap H locs := ⟨_, _, rfl, rfl, hW, hS⟩
  clear hW
  obtain ⟨H, locs, eH, el, hW, hS⟩ := hS
  rw [← eH, ← el]
  clear eH el
  refine lv_iload_n hx hb dX11_look_0 rfl (lv_at hl 1 rfl) ?_
  refine k_Sl (va_runS (As := [.int (p1)]) (rest := []) ⟨hx, hb, hml, hown, hts⟩ (c_X11_slopeOf l p1) (va_cwS 1 hts gX11_look_X11_slopeOf rfl rfl rfl (by decide +kernel) ⟨Nat.le_of_ble_eq_true rfl, Nat.le_of_ble_eq_true rfl⟩) gP0 rfl rfl hl.1 rfl (lv_room (Nat.le_of_ble_eq_true rfl)) dX11_look_1 ⟨Nat.le_of_ble_eq_true rfl, Nat.le_of_ble_eq_true rfl⟩) (fun r1 er1 => ?_)
  refine lv_lstore_n (lv' := [(3, .long (r1)), (0, .ref (eM E 0)), (1, .int (p1)), (2, .int (p2))]) hx hb dX11_look_4 rfl hl (by decide) rfl (fun ls hl => ?_)
  refine lv_aload_n hx hb dX11_look_5 rfl (lv_at hl 1 rfl) ?_
  refine lv_iload_n hx hb dX11_look_6 rfl (lv_at hl 2 rfl) ?_
  refine lv_iload_n hx hb dX11_look_7 rfl (lv_at hl 3 rfl) ?_
  refine k_Sl (va_runV (As := [.int (p1), .int (p2)]) (rest := []) ⟨hx, hb, hml, hown, hts⟩ (c_X11_turnOf l E M S p1 p2 hd hc) (cwV 2 hts gX11_look_X11_turnOf rfl rfl rfl (by decide +kernel) ⟨Nat.le_of_ble_eq_true rfl, Nat.le_of_ble_eq_true rfl⟩) (gP.V (ci := 10) (q := (RX11, TX11, 23)) (q0 := 0) hE hS hW rfl rfl) rfl rfl hl.1 rfl (lv_room (Nat.le_of_ble_eq_true rfl)) dX11_look_8 ⟨Nat.le_of_ble_eq_true rfl, Nat.le_of_ble_eq_true rfl⟩) (fun r8 er8 => ?_)
  refine lv_lstore (lv' := [(5, .long (r8)), (3, .long (r1)), (0, .ref (eM E 0)), (1, .int (p1)), (2, .int (p2))]) hx hb dX11_look_11 hl (by decide) rfl (fun ls hl => ?_)
  refine lv_aload_n hx hb dX11_look_13 rfl (lv_at hl 2 rfl) ?_
  refine va_get (D := eD E) (cl := vwCl) (tys := eT E) (ci := 10) (C := RX11) (T := TX11) (N := 23) (v := .int (M.1 0 4)) hx hb hts hinX11 hown hE.1 hW.1 0 rfl rfl 4 (by decide) (hts (.fieldLink RX11 19 "DialGardenModel" "latitude" "I") (by decide +kernel)) (fun _ h9 => h9) rfl dX11_look_14 ?_
  refine lv_i2l (v := (M.1 0 4).toInt64) hx hb dX11_look_17 rfl ?_
  refine k_Sl (va_runS (As := [.long ((M.1 0 4).toInt64)]) (rest := []) ⟨hx, hb, hml, hown, hts⟩ (c_X11_sineOf l ((M.1 0 4).toInt64)) (va_cwS 1 hts gX11_look_X11_sineOf rfl rfl rfl (by decide +kernel) ⟨Nat.le_of_ble_eq_true rfl, Nat.le_of_ble_eq_true rfl⟩) gP0 rfl rfl hl.1 rfl (lv_room (Nat.le_of_ble_eq_true rfl)) dX11_look_18 ⟨Nat.le_of_ble_eq_true rfl, Nat.le_of_ble_eq_true rfl⟩) (fun r18 er18 => ?_)
  refine lv_lstore (lv' := [(7, .long (r18)), (5, .long (r8)), (3, .long (r1)), (0, .ref (eM E 0)), (1, .int (p1)), (2, .int (p2))]) hx hb dX11_look_21 hl (by decide) rfl (fun ls hl => ?_)
  refine lv_aload_n hx hb dX11_look_23 rfl (lv_at hl 3 rfl) ?_
  refine va_get (D := eD E) (cl := vwCl) (tys := eT E) (ci := 10) (C := RX11) (T := TX11) (N := 23) (v := .int (M.1 0 4)) hx hb hts hinX11 hown hE.1 hW.1 0 rfl rfl 4 (by decide) (hts (.fieldLink RX11 19 "DialGardenModel" "latitude" "I") (by decide +kernel)) (fun _ h9 => h9) rfl dX11_look_24 ?_
  refine lv_i2l (v := (M.1 0 4).toInt64) hx hb dX11_look_27 rfl ?_
  refine k_Sl (va_runS (As := [.long ((M.1 0 4).toInt64)]) (rest := []) ⟨hx, hb, hml, hown, hts⟩ (c_X11_cosineOf l ((M.1 0 4).toInt64)) (va_cwS 1 hts gX11_look_X11_cosineOf rfl rfl rfl (by decide +kernel) ⟨Nat.le_of_ble_eq_true rfl, Nat.le_of_ble_eq_true rfl⟩) gP0 rfl rfl hl.1 rfl (lv_room (Nat.le_of_ble_eq_true rfl)) dX11_look_28 ⟨Nat.le_of_ble_eq_true rfl, Nat.le_of_ble_eq_true rfl⟩) (fun r28 er28 => ?_)
  refine lv_lstore (lv' := [(9, .long (r28)), (7, .long (r18)), (5, .long (r8)), (3, .long (r1)), (0, .ref (eM E 0)), (1, .int (p1)), (2, .int (p2))]) hx hb dX11_look_31 hl (by decide) rfl (fun ls hl => ?_)
  refine lv_lload_n hx hb dX11_look_33 rfl (lv_at hl 3 rfl) ?_
  refine k_Sl (va_runS (As := [.long (r1)]) (rest := []) ⟨hx, hb, hml, hown, hts⟩ (c_X11_sineOf l r1) (va_cwS 1 hts gX11_look_X11_sineOf rfl rfl rfl (by decide +kernel) ⟨Nat.le_of_ble_eq_true rfl, Nat.le_of_ble_eq_true rfl⟩) gP0 rfl rfl hl.1 rfl (lv_room (Nat.le_of_ble_eq_true rfl)) dX11_look_34 ⟨Nat.le_of_ble_eq_true rfl, Nat.le_of_ble_eq_true rfl⟩) (fun r34 er34 => ?_)
  refine lv_lstore (lv' := [(11, .long (r34)), (9, .long (r28)), (7, .long (r18)), (5, .long (r8)), (3, .long (r1)), (0, .ref (eM E 0)), (1, .int (p1)), (2, .int (p2))]) hx hb dX11_look_37 hl (by decide) rfl (fun ls hl => ?_)
  refine lv_lload_n hx hb dX11_look_39 rfl (lv_at hl 4 rfl) ?_
  refine k_Sl (va_runS (As := [.long (r1)]) (rest := []) ⟨hx, hb, hml, hown, hts⟩ (c_X11_cosineOf l r1) (va_cwS 1 hts gX11_look_X11_cosineOf rfl rfl rfl (by decide +kernel) ⟨Nat.le_of_ble_eq_true rfl, Nat.le_of_ble_eq_true rfl⟩) gP0 rfl rfl hl.1 rfl (lv_room (Nat.le_of_ble_eq_true rfl)) dX11_look_40 ⟨Nat.le_of_ble_eq_true rfl, Nat.le_of_ble_eq_true rfl⟩) (fun r40 er40 => ?_)
  refine lv_lstore (lv' := [(13, .long (r40)), (11, .long (r34)), (9, .long (r28)), (7, .long (r18)), (5, .long (r8)), (3, .long (r1)), (0, .ref (eM E 0)), (1, .int (p1)), (2, .int (p2))]) hx hb dX11_look_43 hl (by decide) rfl (fun ls hl => ?_)
  refine lv_lload hx hb dX11_look_45 (lv_at hl 4 rfl) ?_
  refine k_Sl (va_runS (As := [.long (r8)]) (rest := []) ⟨hx, hb, hml, hown, hts⟩ (c_X11_sineOf l r8) (va_cwS 1 hts gX11_look_X11_sineOf rfl rfl rfl (by decide +kernel) ⟨Nat.le_of_ble_eq_true rfl, Nat.le_of_ble_eq_true rfl⟩) gP0 rfl rfl hl.1 rfl (lv_room (Nat.le_of_ble_eq_true rfl)) dX11_look_47 ⟨Nat.le_of_ble_eq_true rfl, Nat.le_of_ble_eq_true rfl⟩) (fun r47 er47 => ?_)
  refine lv_lstore (lv' := [(15, .long (r47)), (13, .long (r40)), (11, .long (r34)), (9, .long (r28)), (7, .long (r18)), (5, .long (r8)), (3, .long (r1)), (0, .ref (eM E 0)), (1, .int (p1)), (2, .int (p2))]) hx hb dX11_look_50 hl (by decide) rfl (fun ls hl => ?_)
  refine lv_lload hx hb dX11_look_52 (lv_at hl 5 rfl) ?_
  refine k_Sl (va_runS (As := [.long (r8)]) (rest := []) ⟨hx, hb, hml, hown, hts⟩ (c_X11_cosineOf l r8) (va_cwS 1 hts gX11_look_X11_cosineOf rfl rfl rfl (by decide +kernel) ⟨Nat.le_of_ble_eq_true rfl, Nat.le_of_ble_eq_true rfl⟩) gP0 rfl rfl hl.1 rfl (lv_room (Nat.le_of_ble_eq_true rfl)) dX11_look_54 ⟨Nat.le_of_ble_eq_true rfl, Nat.le_of_ble_eq_true rfl⟩) (fun r54 er54 => ?_)
  refine lv_lstore (lv' := [(17, .long (r54)), (15, .long (r47)), (13, .long (r40)), (11, .long (r34)), (9, .long (r28)), (7, .long (r18)), (5, .long (r8)), (3, .long (r1)), (0, .ref (eM E 0)), (1, .int (p1)), (2, .int (p2))]) hx hb dX11_look_57 hl (by decide) rfl (fun ls hl => ?_)
  refine lv_aload_n hx hb dX11_look_59 rfl (lv_at hl 8 rfl) ?_
  refine lv_lload hx hb dX11_look_60 (lv_at hl 2 rfl) ?_
  refine lv_lload hx hb dX11_look_62 (lv_at hl 1 rfl) ?_
  refine k_Sl (va_runS (As := [.long (r40), .long (r47)]) (rest := [.ref (eM E 0)]) ⟨hx, hb, hml, hown, hts⟩ (c_X11_times l r40 r47) (va_cwS 2 hts gX11_look_X11_times rfl rfl rfl (by decide +kernel) ⟨Nat.le_of_ble_eq_true rfl, Nat.le_of_ble_eq_true rfl⟩) gP0 rfl rfl hl.1 rfl (lv_room (Nat.le_of_ble_eq_true rfl)) dX11_look_64 ⟨Nat.le_of_ble_eq_true rfl, Nat.le_of_ble_eq_true rfl⟩) (fun r64 er64 => ?_)
  refine lv_lneg hx hb dX11_look_67 ?_
  refine va_put (D := eD E) (cl := vwCl) (tys := eT E) (A := eA E) (ci := 10) (C := RX11) (T := TX11) (N := 23) (v := .long (-r64)) (ty := .long) hx hb hts hinX11 tyX11 tyX11_ok nmX11 hown hE.1 hW.1 hW.2 hS 0 rfl rfl 11 (by decide) (hts (.fieldLink RX11 111 "DialGardenModel" "east" "J") (by decide +kernel)) (fun _ h9 => h9) rfl (by decide +kernel) rfl rfl (Nat.le_of_ble_eq_true rfl) dX11_look_68 (fun H locs hP hD hS => ?_)
  have hW : gW E (pJ M 0 11 (-r64)) S H := gW.of (uM_0_11 E M S (-r64)) hP hD
  refine lv_aload_n hx hb dX11_look_71 rfl (lv_at hl 8 rfl) ?_
  refine lv_lload hx hb dX11_look_72 (lv_at hl 4 rfl) ?_
  refine lv_lload hx hb dX11_look_74 (lv_at hl 3 rfl) ?_
  refine k_Sl (va_runS (As := [.long (r28), .long (r34)]) (rest := [.ref (eM E 0)]) ⟨hx, hb, hml, hown, hts⟩ (c_X11_times l r28 r34) (va_cwS 2 hts gX11_look_X11_times rfl rfl rfl (by decide +kernel) ⟨Nat.le_of_ble_eq_true rfl, Nat.le_of_ble_eq_true rfl⟩) gP0 rfl rfl hl.1 rfl (lv_room (Nat.le_of_ble_eq_true rfl)) dX11_look_76 ⟨Nat.le_of_ble_eq_true rfl, Nat.le_of_ble_eq_true rfl⟩) (fun r76 er76 => ?_)
  refine lv_lload hx hb dX11_look_79 (lv_at hl 5 rfl) ?_
  refine lv_lload hx hb dX11_look_81 (lv_at hl 2 rfl) ?_
  refine k_Sl (va_runS (As := [.long (r18), .long (r40)]) (rest := [.long (r76), .ref (eM E 0)]) ⟨hx, hb, hml, hown, hts⟩ (c_X11_times l r18 r40) (va_cwS 2 hts gX11_look_X11_times rfl rfl rfl (by decide +kernel) ⟨Nat.le_of_ble_eq_true rfl, Nat.le_of_ble_eq_true rfl⟩) gP0 rfl rfl hl.1 rfl (lv_room (Nat.le_of_ble_eq_true rfl)) dX11_look_83 ⟨Nat.le_of_ble_eq_true rfl, Nat.le_of_ble_eq_true rfl⟩) (fun r83 er83 => ?_)
  refine lv_lload hx hb dX11_look_86 (lv_at hl 0 rfl) ?_
  refine k_Sl (va_runS (As := [.long (r83), .long (r54)]) (rest := [.long (r76), .ref (eM E 0)]) ⟨hx, hb, hml, hown, hts⟩ (c_X11_times l r83 r54) (va_cwS 2 hts gX11_look_X11_times rfl rfl rfl (by decide +kernel) ⟨Nat.le_of_ble_eq_true rfl, Nat.le_of_ble_eq_true rfl⟩) gP0 rfl rfl hl.1 rfl (lv_room (Nat.le_of_ble_eq_true rfl)) dX11_look_88 ⟨Nat.le_of_ble_eq_true rfl, Nat.le_of_ble_eq_true rfl⟩) (fun r88 er88 => ?_)
  refine lv_lsub hx hb dX11_look_91 ?_
  refine va_put (D := eD E) (cl := vwCl) (tys := eT E) (A := eA E) (ci := 10) (C := RX11) (T := TX11) (N := 23) (v := .long (r76 - r88)) (ty := .long) hx hb hts hinX11 tyX11 tyX11_ok nmX11 hown hE.1 hW.1 hW.2 hS 0 rfl rfl 12 (by decide) (hts (.fieldLink RX11 115 "DialGardenModel" "north" "J") (by decide +kernel)) (fun _ h9 => h9) rfl (by decide +kernel) rfl rfl (Nat.le_of_ble_eq_true rfl) dX11_look_92 (fun H locs hP hD hS => ?_)
  have hW : gW E (pJ (pJ M 0 11 (-r64)) 0 12 (r76 - r88)) S H := gW.of (uM_0_12 E (pJ M 0 11 (-r64)) S (r76 - r88)) hP hD
  refine lv_aload_n hx hb dX11_look_95 rfl (lv_at hl 8 rfl) ?_
  refine lv_lload hx hb dX11_look_96 (lv_at hl 5 rfl) ?_
  refine lv_lload hx hb dX11_look_98 (lv_at hl 3 rfl) ?_
  refine k_Sl (va_runS (As := [.long (r18), .long (r34)]) (rest := [.ref (eM E 0)]) ⟨hx, hb, hml, hown, hts⟩ (c_X11_times l r18 r34) (va_cwS 2 hts gX11_look_X11_times rfl rfl rfl (by decide +kernel) ⟨Nat.le_of_ble_eq_true rfl, Nat.le_of_ble_eq_true rfl⟩) gP0 rfl rfl hl.1 rfl (lv_room (Nat.le_of_ble_eq_true rfl)) dX11_look_100 ⟨Nat.le_of_ble_eq_true rfl, Nat.le_of_ble_eq_true rfl⟩) (fun r100 er100 => ?_)
  refine lv_lload hx hb dX11_look_103 (lv_at hl 4 rfl) ?_
  refine lv_lload hx hb dX11_look_105 (lv_at hl 2 rfl) ?_
  refine k_Sl (va_runS (As := [.long (r28), .long (r40)]) (rest := [.long (r100), .ref (eM E 0)]) ⟨hx, hb, hml, hown, hts⟩ (c_X11_times l r28 r40) (va_cwS 2 hts gX11_look_X11_times rfl rfl rfl (by decide +kernel) ⟨Nat.le_of_ble_eq_true rfl, Nat.le_of_ble_eq_true rfl⟩) gP0 rfl rfl hl.1 rfl (lv_room (Nat.le_of_ble_eq_true rfl)) dX11_look_107 ⟨Nat.le_of_ble_eq_true rfl, Nat.le_of_ble_eq_true rfl⟩) (fun r107 er107 => ?_)
  refine lv_lload hx hb dX11_look_110 (lv_at hl 0 rfl) ?_
  refine k_Sl (va_runS (As := [.long (r107), .long (r54)]) (rest := [.long (r100), .ref (eM E 0)]) ⟨hx, hb, hml, hown, hts⟩ (c_X11_times l r107 r54) (va_cwS 2 hts gX11_look_X11_times rfl rfl rfl (by decide +kernel) ⟨Nat.le_of_ble_eq_true rfl, Nat.le_of_ble_eq_true rfl⟩) gP0 rfl rfl hl.1 rfl (lv_room (Nat.le_of_ble_eq_true rfl)) dX11_look_112 ⟨Nat.le_of_ble_eq_true rfl, Nat.le_of_ble_eq_true rfl⟩) (fun r112 er112 => ?_)
  refine lv_ladd hx hb dX11_look_115 ?_
  refine va_put (D := eD E) (cl := vwCl) (tys := eT E) (A := eA E) (ci := 10) (C := RX11) (T := TX11) (N := 23) (v := .long (r100 + r112)) (ty := .long) hx hb hts hinX11 tyX11 tyX11_ok nmX11 hown hE.1 hW.1 hW.2 hS 0 rfl rfl 13 (by decide) (hts (.fieldLink RX11 118 "DialGardenModel" "up" "J") (by decide +kernel)) (fun _ h9 => h9) rfl (by decide +kernel) rfl rfl (Nat.le_of_ble_eq_true rfl) dX11_look_116 (fun H locs hP hD hS => ?_)
  have hW : gW E (pJ (pJ (pJ M 0 11 (-r64)) 0 12 (r76 - r88)) 0 13 (r100 + r112)) S H := gW.of (uM_0_13 E (pJ (pJ M 0 11 (-r64)) 0 12 (r76 - r88)) S (r100 + r112)) hP hD
  exact W.vret hx hb hr (fun t ht _ => ⟨⟨pJ (pJ (pJ M 0 11 (-r64)) 0 12 (r76 - r88)) 0 13 (r100 + r112), rfl, by subst er112; subst er107; subst er100; subst er88; subst er83; subst er76; subst er64; subst er54; subst er47; subst er40; subst er34; subst er28; subst er18; subst er8; subst er1; first | (simp only [q_X11_look]; done) | contradiction, by dsimp only; rw [ht]; exact hW⟩, hS.F ht⟩) hS.2.2 dX11_look_119

def q_X11_by (M : gSm) (p1 : Int64) (p2 : Int64) (p3 : Int64) : Int64 := (((M.2 0 11) * p1) + ((M.2 0 12) * p2)) + ((M.2 0 13) * p3)
set_option maxHeartbeats 4000000 in
set_option maxRecDepth 100000 in
theorem c_X11_by (l : Launch) (E : gEE) (M : gSm) (S : gSc) (p1 : Int64) (p2 : Int64) (p3 : Int64)  : Met l yX11_by wsX11_by ({ frames := 0, cells := 0, slots := 0, locals := 0 }) (va_Pc [.ref (eM E 0), .long (p1), .long (p2), .long (p3)] (gP E M S)) (vp_Sl (fun r => r = q_X11_by M p1 p2 p3)) 0 0 (fun _ => False) := by
  refine Met.ofW (cc := cX11_by) (maxL := 7) (ret := (some .long)) (by decide) rfl ?_
  intro p e s m args below meth c s₁ B hml hv
  obtain ⟨rfl, hE, hW⟩ := hv
  have hx := B.exec
  have hb := B.bytes
  have hr := B.returns
  have hts := atoms_spec (ws := wsX11_by) B.pre
  have hown : s.vm.findClass RX11 = some m.cls := findClass_of_methodNamed B.named
  have hlocks := B.notSynchronized
  have hinX11 : ∀ w ∈ wsX110, w ∈ wsX11_by := by decide +kernel
  have hS : va_S (eA E) s.heap s.heap [] := va_S.rf
  have hl := lv_entry ([.ref (eM E 0), .long (p1), .long (p2), .long (p3)]) (n := 7) (Nat.le_of_ble_eq_true rfl)
  rw [lg_entry_eq]
  generalize (lg_sl ([.ref (eM E 0), .long (p1), .long (p2), .long (p3)]) ++ List.replicate (7 - (lg_sl ([.ref (eM E 0), .long (p1), .long (p2), .long (p3)])).length) Slot.unset).toArray = ls at hl ⊢
  have hl : lv_has ls 7 [(0, .ref (eM E 0)), (1, .long (p1)), (3, .long (p2)), (5, .long (p3))] := hl
  refine lv_aload_n hx hb dX11_by_0 rfl (lv_at hl 0 rfl) ?_
  refine va_get (D := eD E) (cl := vwCl) (tys := eT E) (ci := 10) (C := RX11) (T := TX11) (N := 23) (v := .long (M.2 0 11)) hx hb hts hinX11 hown hE.1 hW.1 0 rfl rfl 11 (by decide) (hts (.fieldLink RX11 111 "DialGardenModel" "east" "J") (by decide +kernel)) (fun _ h9 => h9) rfl dX11_by_1 ?_
  refine lv_lload_n hx hb dX11_by_4 rfl (lv_at hl 1 rfl) ?_
  refine lv_lmul hx hb dX11_by_5 ?_
  refine lv_aload_n hx hb dX11_by_6 rfl (lv_at hl 0 rfl) ?_
  refine va_get (D := eD E) (cl := vwCl) (tys := eT E) (ci := 10) (C := RX11) (T := TX11) (N := 23) (v := .long (M.2 0 12)) hx hb hts hinX11 hown hE.1 hW.1 0 rfl rfl 12 (by decide) (hts (.fieldLink RX11 115 "DialGardenModel" "north" "J") (by decide +kernel)) (fun _ h9 => h9) rfl dX11_by_7 ?_
  refine lv_lload_n hx hb dX11_by_10 rfl (lv_at hl 2 rfl) ?_
  refine lv_lmul hx hb dX11_by_11 ?_
  refine lv_ladd hx hb dX11_by_12 ?_
  refine lv_aload_n hx hb dX11_by_13 rfl (lv_at hl 0 rfl) ?_
  refine va_get (D := eD E) (cl := vwCl) (tys := eT E) (ci := 10) (C := RX11) (T := TX11) (N := 23) (v := .long (M.2 0 13)) hx hb hts hinX11 hown hE.1 hW.1 0 rfl rfl 13 (by decide) (hts (.fieldLink RX11 118 "DialGardenModel" "up" "J") (by decide +kernel)) (fun _ h9 => h9) rfl dX11_by_14 ?_
  refine lv_lload hx hb dX11_by_17 (lv_at hl 3 rfl) ?_
  refine lv_lmul hx hb dX11_by_19 ?_
  refine lv_ladd hx hb dX11_by_20 ?_
  exact W.lret (v := (((M.2 0 11) * p1) + ((M.2 0 12) * p2)) + ((M.2 0 13) * p3)) hx hb hr (fun t ht _ => ⟨(((M.2 0 11) * p1) + ((M.2 0 12) * p2)) + ((M.2 0 13) * p3), rfl, by first | (simp only [q_X11_by]; done) | contradiction, ht⟩) (fun _ h => nomatch h) dX11_by_21

def q_X11_sunBy (M : gSm) (p1 : Int32) (p2 : Int64) (p3 : Int32) : Int64 := (let r3 := q_X11_isOfKind M p1 1; (if r3 = 0 then (if p3 = 0 then (let r20 := q_X11_by M 0 0 16384; r20) else (if p3 = 1 then (let r38 := q_X11_by M 16384 0 0; r38) else (let r50 := q_X11_by M 0 16384 0; r50))) else (let r55 := q_X11_sineOf p2; (let r61 := q_X11_cosineOf p2; (if p3 = 1 then (let r79 := q_X11_by M r61 (-r55) 0; r79) else (let r86 := q_X11_isOfKind M p1 2; (if r86 = 0 then (if p3 = 0 then (let r103 := q_X11_by M r55 r61 0; r103) else (let r115 := q_X11_by M 0 0 16384; r115)) else (let r122 := q_X11_get M p1 5; (let r126 := q_X11_sineOf (r122.toInt64); (let r134 := q_X11_get M p1 5; (let r138 := q_X11_cosineOf (r134.toInt64); (if p3 = 0 then (let r153 := q_X11_times r126 r55; (let r160 := q_X11_times r126 r61; (let r165 := q_X11_by M r153 r160 r138; r165))) else (let r176 := q_X11_times r138 r55; (let r184 := q_X11_times r138 r61; (let r190 := q_X11_by M (-r176) (-r184) r126; r190)))))))))))))))
set_option maxHeartbeats 4000000 in
set_option maxRecDepth 100000 in
theorem c_X11_sunBy (l : Launch) (E : gEE) (M : gSm) (S : gSc) (p1 : Int32) (p2 : Int64) (p3 : Int32) (hp : isP p1) : Met l yX11_sunBy wsX11_sunBy ({ frames := 2, cells := 0, slots := 0, locals := 51 }) (va_Pc [.ref (eM E 0), .int (p1), .long (p2), .int (p3)] (gP E M S)) (vp_Sl (fun r => r = q_X11_sunBy M p1 p2 p3)) 0 0 (fun _ => False) := by
  refine Met.ofW (cc := cX11_sunBy) (maxL := 13) (ret := (some .long)) (by decide) rfl ?_
  intro p e s m args below meth c s₁ B hml hv
  obtain ⟨rfl, hE, hW⟩ := hv
  have hx := B.exec
  have hb := B.bytes
  have hr := B.returns
  have hts := atoms_spec (ws := wsX11_sunBy) B.pre
  have hown : s.vm.findClass RX11 = some m.cls := findClass_of_methodNamed B.named
  have hlocks := B.notSynchronized
  have hS : va_S (eA E) s.heap s.heap [] := va_S.rf
  have hl := lv_entry ([.ref (eM E 0), .int (p1), .long (p2), .int (p3)]) (n := 13) (Nat.le_of_ble_eq_true rfl)
  rw [lg_entry_eq]
  generalize (lg_sl ([.ref (eM E 0), .int (p1), .long (p2), .int (p3)]) ++ List.replicate (13 - (lg_sl ([.ref (eM E 0), .int (p1), .long (p2), .int (p3)])).length) Slot.unset).toArray = ls at hl ⊢
  have hl : lv_has ls 13 [(0, .ref (eM E 0)), (1, .int (p1)), (2, .long (p2)), (4, .int (p3))] := hl
  refine lv_aload_n hx hb dX11_sunBy_0 rfl (lv_at hl 0 rfl) ?_
  refine lv_iload_n hx hb dX11_sunBy_1 rfl (lv_at hl 1 rfl) ?_
  refine lv_iconst (v := 1) hx hb dX11_sunBy_2 (by decide) ?_
  refine k_Si (va_runV (As := [.int (p1), .int (1)]) (rest := []) ⟨hx, hb, hml, hown, hts⟩ (c_X11_isOfKind l E M S p1 1 hp) (cwV 2 hts gX11_sunBy_X11_isOfKind rfl rfl rfl (by decide +kernel) ⟨Nat.le_of_ble_eq_true rfl, Nat.le_of_ble_eq_true rfl⟩) (gP.V (ci := 10) (q := (RX11, TX11, 23)) (q0 := 0) hE hS hW rfl rfl) rfl rfl hl.1 rfl (lv_room (Nat.le_of_ble_eq_true rfl)) dX11_sunBy_3 ⟨Nat.le_of_ble_eq_true rfl, Nat.le_of_ble_eq_true rfl⟩) (fun r3 er3 => ?_)
  refine lv_if_ne (tgt := 54) hx hb dX11_sunBy_6 (by decide) (fun c6 => ?_) (fun c6 => ?_)
  · refine lv_lload_n hx hb dX11_sunBy_54 rfl (lv_at hl 2 rfl) ?_
    refine k_Sl (va_runS (As := [.long (p2)]) (rest := []) ⟨hx, hb, hml, hown, hts⟩ (c_X11_sineOf l p2) (va_cwS 1 hts gX11_sunBy_X11_sineOf rfl rfl rfl (by decide +kernel) ⟨Nat.le_of_ble_eq_true rfl, Nat.le_of_ble_eq_true rfl⟩) gP0 rfl rfl hl.1 rfl (lv_room (Nat.le_of_ble_eq_true rfl)) dX11_sunBy_55 ⟨Nat.le_of_ble_eq_true rfl, Nat.le_of_ble_eq_true rfl⟩) (fun r55 er55 => ?_)
    refine lv_lstore (lv' := [(5, .long (r55)), (0, .ref (eM E 0)), (1, .int (p1)), (2, .long (p2)), (4, .int (p3))]) hx hb dX11_sunBy_58 hl (by decide) rfl (fun ls hl => ?_)
    refine lv_lload_n hx hb dX11_sunBy_60 rfl (lv_at hl 3 rfl) ?_
    refine k_Sl (va_runS (As := [.long (p2)]) (rest := []) ⟨hx, hb, hml, hown, hts⟩ (c_X11_cosineOf l p2) (va_cwS 1 hts gX11_sunBy_X11_cosineOf rfl rfl rfl (by decide +kernel) ⟨Nat.le_of_ble_eq_true rfl, Nat.le_of_ble_eq_true rfl⟩) gP0 rfl rfl hl.1 rfl (lv_room (Nat.le_of_ble_eq_true rfl)) dX11_sunBy_61 ⟨Nat.le_of_ble_eq_true rfl, Nat.le_of_ble_eq_true rfl⟩) (fun r61 er61 => ?_)
    refine lv_lstore (lv' := [(7, .long (r61)), (5, .long (r55)), (0, .ref (eM E 0)), (1, .int (p1)), (2, .long (p2)), (4, .int (p3))]) hx hb dX11_sunBy_64 hl (by decide) rfl (fun ls hl => ?_)
    refine lv_iload hx hb dX11_sunBy_66 (lv_at hl 5 rfl) ?_
    refine lv_iconst (v := 1) hx hb dX11_sunBy_68 (by decide) ?_
    refine lv_icmp_ne (tgt := 83) hx hb dX11_sunBy_69 (by decide) (fun c69 => ?_) (fun c69 => ?_)
    · refine lv_aload_n hx hb dX11_sunBy_83 rfl (lv_at hl 2 rfl) ?_
      refine lv_iload_n hx hb dX11_sunBy_84 rfl (lv_at hl 3 rfl) ?_
      refine lv_iconst (v := 2) hx hb dX11_sunBy_85 (by decide) ?_
      refine k_Si (va_runV (As := [.int (p1), .int (2)]) (rest := []) ⟨hx, hb, hml, hown, hts⟩ (c_X11_isOfKind l E M S p1 2 hp) (cwV 2 hts gX11_sunBy_X11_isOfKind rfl rfl rfl (by decide +kernel) ⟨Nat.le_of_ble_eq_true rfl, Nat.le_of_ble_eq_true rfl⟩) (gP.V (ci := 10) (q := (RX11, TX11, 23)) (q0 := 0) hE hS hW rfl rfl) rfl rfl hl.1 rfl (lv_room (Nat.le_of_ble_eq_true rfl)) dX11_sunBy_86 ⟨Nat.le_of_ble_eq_true rfl, Nat.le_of_ble_eq_true rfl⟩) (fun r86 er86 => ?_)
      refine lv_if_ne (tgt := 119) hx hb dX11_sunBy_89 (by decide) (fun c89 => ?_) (fun c89 => ?_)
      · refine lv_aload_n hx hb dX11_sunBy_119 rfl (lv_at hl 2 rfl) ?_
        refine lv_iload_n hx hb dX11_sunBy_120 rfl (lv_at hl 3 rfl) ?_
        refine lv_iconst (v := 5) hx hb dX11_sunBy_121 (by decide) ?_
        refine k_Si (va_runV (As := [.int (p1), .int (5)]) (rest := []) ⟨hx, hb, hml, hown, hts⟩ (c_X11_get l E M S p1 5 (gx hp (by decide))) (cwV 2 hts gX11_sunBy_X11_get rfl rfl rfl (by decide +kernel) ⟨Nat.le_of_ble_eq_true rfl, Nat.le_of_ble_eq_true rfl⟩) (gP.V (ci := 10) (q := (RX11, TX11, 23)) (q0 := 0) hE hS hW rfl rfl) rfl rfl hl.1 rfl (lv_room (Nat.le_of_ble_eq_true rfl)) dX11_sunBy_122 ⟨Nat.le_of_ble_eq_true rfl, Nat.le_of_ble_eq_true rfl⟩) (fun r122 er122 => ?_)
        refine lv_i2l (v := r122.toInt64) hx hb dX11_sunBy_125 rfl ?_
        refine k_Sl (va_runS (As := [.long (r122.toInt64)]) (rest := []) ⟨hx, hb, hml, hown, hts⟩ (c_X11_sineOf l (r122.toInt64)) (va_cwS 1 hts gX11_sunBy_X11_sineOf rfl rfl rfl (by decide +kernel) ⟨Nat.le_of_ble_eq_true rfl, Nat.le_of_ble_eq_true rfl⟩) gP0 rfl rfl hl.1 rfl (lv_room (Nat.le_of_ble_eq_true rfl)) dX11_sunBy_126 ⟨Nat.le_of_ble_eq_true rfl, Nat.le_of_ble_eq_true rfl⟩) (fun r126 er126 => ?_)
        refine lv_lstore (lv' := [(9, .long (r126)), (7, .long (r61)), (5, .long (r55)), (0, .ref (eM E 0)), (1, .int (p1)), (2, .long (p2)), (4, .int (p3))]) hx hb dX11_sunBy_129 hl (by decide) rfl (fun ls hl => ?_)
        refine lv_aload_n hx hb dX11_sunBy_131 rfl (lv_at hl 3 rfl) ?_
        refine lv_iload_n hx hb dX11_sunBy_132 rfl (lv_at hl 4 rfl) ?_
        refine lv_iconst (v := 5) hx hb dX11_sunBy_133 (by decide) ?_
        refine k_Si (va_runV (As := [.int (p1), .int (5)]) (rest := []) ⟨hx, hb, hml, hown, hts⟩ (c_X11_get l E M S p1 5 (gx hp (by decide))) (cwV 2 hts gX11_sunBy_X11_get rfl rfl rfl (by decide +kernel) ⟨Nat.le_of_ble_eq_true rfl, Nat.le_of_ble_eq_true rfl⟩) (gP.V (ci := 10) (q := (RX11, TX11, 23)) (q0 := 0) hE hS hW rfl rfl) rfl rfl hl.1 rfl (lv_room (Nat.le_of_ble_eq_true rfl)) dX11_sunBy_134 ⟨Nat.le_of_ble_eq_true rfl, Nat.le_of_ble_eq_true rfl⟩) (fun r134 er134 => ?_)
        refine lv_i2l (v := r134.toInt64) hx hb dX11_sunBy_137 rfl ?_
        refine k_Sl (va_runS (As := [.long (r134.toInt64)]) (rest := []) ⟨hx, hb, hml, hown, hts⟩ (c_X11_cosineOf l (r134.toInt64)) (va_cwS 1 hts gX11_sunBy_X11_cosineOf rfl rfl rfl (by decide +kernel) ⟨Nat.le_of_ble_eq_true rfl, Nat.le_of_ble_eq_true rfl⟩) gP0 rfl rfl hl.1 rfl (lv_room (Nat.le_of_ble_eq_true rfl)) dX11_sunBy_138 ⟨Nat.le_of_ble_eq_true rfl, Nat.le_of_ble_eq_true rfl⟩) (fun r138 er138 => ?_)
        refine lv_lstore (lv' := [(11, .long (r138)), (9, .long (r126)), (7, .long (r61)), (5, .long (r55)), (0, .ref (eM E 0)), (1, .int (p1)), (2, .long (p2)), (4, .int (p3))]) hx hb dX11_sunBy_141 hl (by decide) rfl (fun ls hl => ?_)
        refine lv_iload hx hb dX11_sunBy_143 (lv_at hl 7 rfl) ?_
        refine lv_if_ne (tgt := 171) hx hb dX11_sunBy_145 (by decide) (fun c145 => ?_) (fun c145 => ?_)
        · refine lv_aload_n hx hb dX11_sunBy_171 rfl (lv_at hl 4 rfl) ?_
          refine lv_lload hx hb dX11_sunBy_172 (lv_at hl 0 rfl) ?_
          refine lv_lload hx hb dX11_sunBy_174 (lv_at hl 3 rfl) ?_
          refine k_Sl (va_runS (As := [.long (r138), .long (r55)]) (rest := [.ref (eM E 0)]) ⟨hx, hb, hml, hown, hts⟩ (c_X11_times l r138 r55) (va_cwS 2 hts gX11_sunBy_X11_times rfl rfl rfl (by decide +kernel) ⟨Nat.le_of_ble_eq_true rfl, Nat.le_of_ble_eq_true rfl⟩) gP0 rfl rfl hl.1 rfl (lv_room (Nat.le_of_ble_eq_true rfl)) dX11_sunBy_176 ⟨Nat.le_of_ble_eq_true rfl, Nat.le_of_ble_eq_true rfl⟩) (fun r176 er176 => ?_)
          refine lv_lneg hx hb dX11_sunBy_179 ?_
          refine lv_lload hx hb dX11_sunBy_180 (lv_at hl 0 rfl) ?_
          refine lv_lload hx hb dX11_sunBy_182 (lv_at hl 2 rfl) ?_
          refine k_Sl (va_runS (As := [.long (r138), .long (r61)]) (rest := [.long (-r176), .ref (eM E 0)]) ⟨hx, hb, hml, hown, hts⟩ (c_X11_times l r138 r61) (va_cwS 2 hts gX11_sunBy_X11_times rfl rfl rfl (by decide +kernel) ⟨Nat.le_of_ble_eq_true rfl, Nat.le_of_ble_eq_true rfl⟩) gP0 rfl rfl hl.1 rfl (lv_room (Nat.le_of_ble_eq_true rfl)) dX11_sunBy_184 ⟨Nat.le_of_ble_eq_true rfl, Nat.le_of_ble_eq_true rfl⟩) (fun r184 er184 => ?_)
          refine lv_lneg hx hb dX11_sunBy_187 ?_
          refine lv_lload hx hb dX11_sunBy_188 (lv_at hl 1 rfl) ?_
          refine k_Sl (va_runV (As := [.long (-r176), .long (-r184), .long (r126)]) (rest := []) ⟨hx, hb, hml, hown, hts⟩ (c_X11_by l E M S (-r176) (-r184) r126) (cwV 3 hts gX11_sunBy_X11_by rfl rfl rfl (by decide +kernel) ⟨Nat.le_of_ble_eq_true rfl, Nat.le_of_ble_eq_true rfl⟩) (gP.V (ci := 10) (q := (RX11, TX11, 23)) (q0 := 0) hE hS hW rfl rfl) rfl rfl hl.1 rfl (lv_room (Nat.le_of_ble_eq_true rfl)) dX11_sunBy_190 ⟨Nat.le_of_ble_eq_true rfl, Nat.le_of_ble_eq_true rfl⟩) (fun r190 er190 => ?_)
          exact W.lret (v := r190) hx hb hr (fun t ht _ => ⟨r190, rfl, by subst er190; subst er184; subst er176; subst er138; subst er134; subst er126; subst er122; subst er86; subst er61; subst er55; subst er3; first | (simp only [q_X11_sunBy, if_neg c6, if_neg c69, if_neg c89, if_neg c145]; done) | contradiction, ht⟩) (fun _ h => nomatch h) dX11_sunBy_193
        · refine lv_aload_n hx hb dX11_sunBy_148 rfl (lv_at hl 4 rfl) ?_
          refine lv_lload hx hb dX11_sunBy_149 (lv_at hl 1 rfl) ?_
          refine lv_lload hx hb dX11_sunBy_151 (lv_at hl 3 rfl) ?_
          refine k_Sl (va_runS (As := [.long (r126), .long (r55)]) (rest := [.ref (eM E 0)]) ⟨hx, hb, hml, hown, hts⟩ (c_X11_times l r126 r55) (va_cwS 2 hts gX11_sunBy_X11_times rfl rfl rfl (by decide +kernel) ⟨Nat.le_of_ble_eq_true rfl, Nat.le_of_ble_eq_true rfl⟩) gP0 rfl rfl hl.1 rfl (lv_room (Nat.le_of_ble_eq_true rfl)) dX11_sunBy_153 ⟨Nat.le_of_ble_eq_true rfl, Nat.le_of_ble_eq_true rfl⟩) (fun r153 er153 => ?_)
          refine lv_lload hx hb dX11_sunBy_156 (lv_at hl 1 rfl) ?_
          refine lv_lload hx hb dX11_sunBy_158 (lv_at hl 2 rfl) ?_
          refine k_Sl (va_runS (As := [.long (r126), .long (r61)]) (rest := [.long (r153), .ref (eM E 0)]) ⟨hx, hb, hml, hown, hts⟩ (c_X11_times l r126 r61) (va_cwS 2 hts gX11_sunBy_X11_times rfl rfl rfl (by decide +kernel) ⟨Nat.le_of_ble_eq_true rfl, Nat.le_of_ble_eq_true rfl⟩) gP0 rfl rfl hl.1 rfl (lv_room (Nat.le_of_ble_eq_true rfl)) dX11_sunBy_160 ⟨Nat.le_of_ble_eq_true rfl, Nat.le_of_ble_eq_true rfl⟩) (fun r160 er160 => ?_)
          refine lv_lload hx hb dX11_sunBy_163 (lv_at hl 0 rfl) ?_
          refine k_Sl (va_runV (As := [.long (r153), .long (r160), .long (r138)]) (rest := []) ⟨hx, hb, hml, hown, hts⟩ (c_X11_by l E M S r153 r160 r138) (cwV 3 hts gX11_sunBy_X11_by rfl rfl rfl (by decide +kernel) ⟨Nat.le_of_ble_eq_true rfl, Nat.le_of_ble_eq_true rfl⟩) (gP.V (ci := 10) (q := (RX11, TX11, 23)) (q0 := 0) hE hS hW rfl rfl) rfl rfl hl.1 rfl (lv_room (Nat.le_of_ble_eq_true rfl)) dX11_sunBy_165 ⟨Nat.le_of_ble_eq_true rfl, Nat.le_of_ble_eq_true rfl⟩) (fun r165 er165 => ?_)
          refine lv_goto (tgt := 193) hx hb dX11_sunBy_168 (by decide) ?_
          exact W.lret (v := r165) hx hb hr (fun t ht _ => ⟨r165, rfl, by subst er165; subst er160; subst er153; subst er138; subst er134; subst er126; subst er122; subst er86; subst er61; subst er55; subst er3; first | (simp only [q_X11_sunBy, if_neg c6, if_neg c69, if_neg c89, if_pos c145]; done) | contradiction, ht⟩) (fun _ h => nomatch h) dX11_sunBy_193
      · refine lv_iload hx hb dX11_sunBy_92 (lv_at hl 5 rfl) ?_
        refine lv_if_ne (tgt := 109) hx hb dX11_sunBy_94 (by decide) (fun c94 => ?_) (fun c94 => ?_)
        · refine lv_aload_n hx hb dX11_sunBy_109 rfl (lv_at hl 2 rfl) ?_
          refine lv_lconst (v := 0) hx hb dX11_sunBy_110 (by decide) ?_
          refine lv_lconst (v := 0) hx hb dX11_sunBy_111 (by decide) ?_
          refine lv_ldc2 hx hb (v := 16384) hown (hts (.constantLong RX11 57 (16384)) (by decide +kernel)) dX11_sunBy_112 ?_
          refine k_Sl (va_runV (As := [.long (0), .long (0), .long (16384)]) (rest := []) ⟨hx, hb, hml, hown, hts⟩ (c_X11_by l E M S 0 0 16384) (cwV 3 hts gX11_sunBy_X11_by rfl rfl rfl (by decide +kernel) ⟨Nat.le_of_ble_eq_true rfl, Nat.le_of_ble_eq_true rfl⟩) (gP.V (ci := 10) (q := (RX11, TX11, 23)) (q0 := 0) hE hS hW rfl rfl) rfl rfl hl.1 rfl (lv_room (Nat.le_of_ble_eq_true rfl)) dX11_sunBy_115 ⟨Nat.le_of_ble_eq_true rfl, Nat.le_of_ble_eq_true rfl⟩) (fun r115 er115 => ?_)
          exact W.lret (v := r115) hx hb hr (fun t ht _ => ⟨r115, rfl, by subst er115; subst er86; subst er61; subst er55; subst er3; first | (simp only [q_X11_sunBy, if_neg c6, if_neg c69, if_pos c89, if_neg c94]; done) | contradiction, ht⟩) (fun _ h => nomatch h) dX11_sunBy_118
        · refine lv_aload_n hx hb dX11_sunBy_97 rfl (lv_at hl 2 rfl) ?_
          refine lv_lload hx hb dX11_sunBy_98 (lv_at hl 1 rfl) ?_
          refine lv_lload hx hb dX11_sunBy_100 (lv_at hl 0 rfl) ?_
          refine lv_lconst (v := 0) hx hb dX11_sunBy_102 (by decide) ?_
          refine k_Sl (va_runV (As := [.long (r55), .long (r61), .long (0)]) (rest := []) ⟨hx, hb, hml, hown, hts⟩ (c_X11_by l E M S r55 r61 0) (cwV 3 hts gX11_sunBy_X11_by rfl rfl rfl (by decide +kernel) ⟨Nat.le_of_ble_eq_true rfl, Nat.le_of_ble_eq_true rfl⟩) (gP.V (ci := 10) (q := (RX11, TX11, 23)) (q0 := 0) hE hS hW rfl rfl) rfl rfl hl.1 rfl (lv_room (Nat.le_of_ble_eq_true rfl)) dX11_sunBy_103 ⟨Nat.le_of_ble_eq_true rfl, Nat.le_of_ble_eq_true rfl⟩) (fun r103 er103 => ?_)
          refine lv_goto (tgt := 118) hx hb dX11_sunBy_106 (by decide) ?_
          exact W.lret (v := r103) hx hb hr (fun t ht _ => ⟨r103, rfl, by subst er103; subst er86; subst er61; subst er55; subst er3; first | (simp only [q_X11_sunBy, if_neg c6, if_neg c69, if_pos c89, if_pos c94]; done) | contradiction, ht⟩) (fun _ h => nomatch h) dX11_sunBy_118
    · refine lv_aload_n hx hb dX11_sunBy_72 rfl (lv_at hl 2 rfl) ?_
      refine lv_lload hx hb dX11_sunBy_73 (lv_at hl 0 rfl) ?_
      refine lv_lload hx hb dX11_sunBy_75 (lv_at hl 1 rfl) ?_
      refine lv_lneg hx hb dX11_sunBy_77 ?_
      refine lv_lconst (v := 0) hx hb dX11_sunBy_78 (by decide) ?_
      refine k_Sl (va_runV (As := [.long (r61), .long (-r55), .long (0)]) (rest := []) ⟨hx, hb, hml, hown, hts⟩ (c_X11_by l E M S r61 (-r55) 0) (cwV 3 hts gX11_sunBy_X11_by rfl rfl rfl (by decide +kernel) ⟨Nat.le_of_ble_eq_true rfl, Nat.le_of_ble_eq_true rfl⟩) (gP.V (ci := 10) (q := (RX11, TX11, 23)) (q0 := 0) hE hS hW rfl rfl) rfl rfl hl.1 rfl (lv_room (Nat.le_of_ble_eq_true rfl)) dX11_sunBy_79 ⟨Nat.le_of_ble_eq_true rfl, Nat.le_of_ble_eq_true rfl⟩) (fun r79 er79 => ?_)
      exact W.lret (v := r79) hx hb hr (fun t ht _ => ⟨r79, rfl, by subst er79; subst er61; subst er55; subst er3; first | (simp only [q_X11_sunBy, if_neg c6, if_pos c69]; done) | contradiction, ht⟩) (fun _ h => nomatch h) dX11_sunBy_82
  · refine lv_iload hx hb dX11_sunBy_9 (lv_at hl 3 rfl) ?_
    refine lv_if_ne (tgt := 26) hx hb dX11_sunBy_11 (by decide) (fun c11 => ?_) (fun c11 => ?_)
    · refine lv_iload hx hb dX11_sunBy_26 (lv_at hl 3 rfl) ?_
      refine lv_iconst (v := 1) hx hb dX11_sunBy_28 (by decide) ?_
      refine lv_icmp_ne (tgt := 44) hx hb dX11_sunBy_29 (by decide) (fun c29 => ?_) (fun c29 => ?_)
      · refine lv_aload_n hx hb dX11_sunBy_44 rfl (lv_at hl 0 rfl) ?_
        refine lv_lconst (v := 0) hx hb dX11_sunBy_45 (by decide) ?_
        refine lv_ldc2 hx hb (v := 16384) hown (hts (.constantLong RX11 57 (16384)) (by decide +kernel)) dX11_sunBy_46 ?_
        refine lv_lconst (v := 0) hx hb dX11_sunBy_49 (by decide) ?_
        refine k_Sl (va_runV (As := [.long (0), .long (16384), .long (0)]) (rest := []) ⟨hx, hb, hml, hown, hts⟩ (c_X11_by l E M S 0 16384 0) (cwV 3 hts gX11_sunBy_X11_by rfl rfl rfl (by decide +kernel) ⟨Nat.le_of_ble_eq_true rfl, Nat.le_of_ble_eq_true rfl⟩) (gP.V (ci := 10) (q := (RX11, TX11, 23)) (q0 := 0) hE hS hW rfl rfl) rfl rfl hl.1 rfl (lv_room (Nat.le_of_ble_eq_true rfl)) dX11_sunBy_50 ⟨Nat.le_of_ble_eq_true rfl, Nat.le_of_ble_eq_true rfl⟩) (fun r50 er50 => ?_)
        exact W.lret (v := r50) hx hb hr (fun t ht _ => ⟨r50, rfl, by subst er50; subst er3; first | (simp only [q_X11_sunBy, if_pos c6, if_neg c11, if_neg c29]; done) | contradiction, ht⟩) (fun _ h => nomatch h) dX11_sunBy_53
      · refine lv_aload_n hx hb dX11_sunBy_32 rfl (lv_at hl 0 rfl) ?_
        refine lv_ldc2 hx hb (v := 16384) hown (hts (.constantLong RX11 57 (16384)) (by decide +kernel)) dX11_sunBy_33 ?_
        refine lv_lconst (v := 0) hx hb dX11_sunBy_36 (by decide) ?_
        refine lv_lconst (v := 0) hx hb dX11_sunBy_37 (by decide) ?_
        refine k_Sl (va_runV (As := [.long (16384), .long (0), .long (0)]) (rest := []) ⟨hx, hb, hml, hown, hts⟩ (c_X11_by l E M S 16384 0 0) (cwV 3 hts gX11_sunBy_X11_by rfl rfl rfl (by decide +kernel) ⟨Nat.le_of_ble_eq_true rfl, Nat.le_of_ble_eq_true rfl⟩) (gP.V (ci := 10) (q := (RX11, TX11, 23)) (q0 := 0) hE hS hW rfl rfl) rfl rfl hl.1 rfl (lv_room (Nat.le_of_ble_eq_true rfl)) dX11_sunBy_38 ⟨Nat.le_of_ble_eq_true rfl, Nat.le_of_ble_eq_true rfl⟩) (fun r38 er38 => ?_)
        refine lv_goto (tgt := 53) hx hb dX11_sunBy_41 (by decide) ?_
        exact W.lret (v := r38) hx hb hr (fun t ht _ => ⟨r38, rfl, by subst er38; subst er3; first | (simp only [q_X11_sunBy, if_pos c6, if_neg c11, if_pos c29]; done) | contradiction, ht⟩) (fun _ h => nomatch h) dX11_sunBy_53
    · refine lv_aload_n hx hb dX11_sunBy_14 rfl (lv_at hl 0 rfl) ?_
      refine lv_lconst (v := 0) hx hb dX11_sunBy_15 (by decide) ?_
      refine lv_lconst (v := 0) hx hb dX11_sunBy_16 (by decide) ?_
      refine lv_ldc2 hx hb (v := 16384) hown (hts (.constantLong RX11 57 (16384)) (by decide +kernel)) dX11_sunBy_17 ?_
      refine k_Sl (va_runV (As := [.long (0), .long (0), .long (16384)]) (rest := []) ⟨hx, hb, hml, hown, hts⟩ (c_X11_by l E M S 0 0 16384) (cwV 3 hts gX11_sunBy_X11_by rfl rfl rfl (by decide +kernel) ⟨Nat.le_of_ble_eq_true rfl, Nat.le_of_ble_eq_true rfl⟩) (gP.V (ci := 10) (q := (RX11, TX11, 23)) (q0 := 0) hE hS hW rfl rfl) rfl rfl hl.1 rfl (lv_room (Nat.le_of_ble_eq_true rfl)) dX11_sunBy_20 ⟨Nat.le_of_ble_eq_true rfl, Nat.le_of_ble_eq_true rfl⟩) (fun r20 er20 => ?_)
      refine lv_goto (tgt := 53) hx hb dX11_sunBy_23 (by decide) ?_
      exact W.lret (v := r20) hx hb hr (fun t ht _ => ⟨r20, rfl, by subst er20; subst er3; first | (simp only [q_X11_sunBy, if_pos c6, if_pos c11]; done) | contradiction, ht⟩) (fun _ h => nomatch h) dX11_sunBy_53
