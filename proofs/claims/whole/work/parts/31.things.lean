def q_X1_isA (S : gSc) (a0 : Nat) (p1 : Int32) : Int32 := (let r4 := q_X10_isKind (S.2.2.2.2 a0 0); (if r4 = 0 then 0 else (if (((gKn (S.2.2.2.2 a0 0)) >>> (p1 &&& 31)) &&& 1) = 1 then 1 else 0)))
set_option maxHeartbeats 4000000 in
set_option maxRecDepth 100000 in
theorem c_X1_isA (l : Launch) (E : gEE) (M : gSm) (S : gSc) (a0 : Nat) (p1 : Int32) (hLt : a0 ∈ S.2.2.1) (hkt : S.2.2.2.1 a0 = 1) : Met l yX1_isA wsX1_isA ({ frames := 2, cells := 0, slots := 0, locals := 45 }) (va_Pc [.ref (a0), .int (p1)] (gP E M S)) (vp_Si (fun r => r = q_X1_isA S a0 p1)) 0 0 (fun _ => False) := by
  refine Met.ofW (cc := cX1_isA) (maxL := 2) (ret := (some .boolean)) (by decide) rfl ?_
  intro p e s m args below meth c s₁ B hml hv
  obtain ⟨rfl, hE, hW⟩ := hv
  have hx := B.exec
  have hb := B.bytes
  have hr := B.returns
  have hts := atoms_spec (ws := wsX1_isA) B.pre
  have hown : s.vm.findClass RX1 = some m.cls := findClass_of_methodNamed B.named
  have hlocks := B.notSynchronized
  have hinX1 : ∀ w ∈ wsX10, w ∈ wsX1_isA := by decide +kernel
  have hS : va_S (eA E) s.heap s.heap [] := va_S.rf
  have hl := lv_entry ([.ref (a0), .int (p1)]) (n := 2) (Nat.le_of_ble_eq_true rfl)
  rw [lg_entry_eq]
  generalize (lg_sl ([.ref (a0), .int (p1)]) ++ List.replicate (2 - (lg_sl ([.ref (a0), .int (p1)])).length) Slot.unset).toArray = ls at hl ⊢
  have hl : lv_has ls 2 [(0, .ref (a0)), (1, .int (p1))] := hl
  refine lv_aload_n hx hb dX1_isA_0 rfl (lv_at hl 0 rfl) ?_
  obtain ⟨k1, hk1⟩ := wJ_d E M (S := S) hLt hkt
  refine va_get (D := eD E) (cl := vwCl) (tys := eT E) (ci := 1) (C := RX1) (T := TX1) (N := 7) (v := .int (S.2.2.2.2 a0 0)) hx hb hts hinX1 hown hE.1 hW.1 k1 hk1 rfl 0 (by decide) (hts (.fieldLink RX1 9 "DialGarden$Dial" "kind" "I") (by decide +kernel)) (fun _ h9 => h9) rfl dX1_isA_1 ?_
  refine k_Si (va_runSN (As := [.int (S.2.2.2.2 a0 0)]) (rest := []) ⟨hx, hb, hml, hown, hts⟩ (c_X10_isKind l (S.2.2.2.2 a0 0)) ⟨va_cnB 1 hts gX1_isA_X10_isKind_n36 rfl rfl rfl (hE.2.2.1 (.methodLinkNest "DialGarden$Dial" 36 ⟨"DialGarden", "isKind", "(I)Z"⟩ "DialGarden") (by decide +kernel)) (hts (.initialized RX10) (by decide +kernel)) (by decide +kernel) ⟨Nat.le_of_ble_eq_true rfl, Nat.le_of_ble_eq_true rfl⟩, hts (.static yX10_isKind) (by decide +kernel), trivial⟩ gP0 rfl rfl hl.1 rfl (lv_room (Nat.le_of_ble_eq_true rfl)) dX1_isA_4 ⟨Nat.le_of_ble_eq_true rfl, Nat.le_of_ble_eq_true rfl⟩) (fun r4 er4 => ?_)
  refine lv_if_eq (tgt := 30) hx hb dX1_isA_7 (by decide) (fun c7 => ?_) (fun c7 => ?_)
  · refine lv_iconst (v := 0) hx hb dX1_isA_30 (by decide) ?_
    exact W.zret (v := 0) hx hb hr rfl (fun t ht _ => ⟨0, rfl, by subst er4; first | (simp only [q_X1_isA, if_pos c7]; done) | contradiction, ht⟩) (fun _ h => nomatch h) dX1_isA_31
  · refine va_getsN hx hb hE.2.2.2.2.2.1 hS hown (va_Nw.use rfl (hE.2.2.1 (.fieldLinkNest "DialGarden$Dial" 40 "DialGarden" "KINDS_OF" "[I" "DialGarden") (by decide +kernel))) (fun _ h9 => h9) dX1_isA_10 ?_
    refine lv_aload_n hx hb dX1_isA_13 rfl (lv_at hl 0 rfl) ?_
    obtain ⟨k14, hk14⟩ := wJ_d E M (S := S) hLt hkt
    refine va_get (D := eD E) (cl := vwCl) (tys := eT E) (ci := 1) (C := RX1) (T := TX1) (N := 7) (v := .int (S.2.2.2.2 a0 0)) hx hb hts hinX1 hown hE.1 hW.1 k14 hk14 rfl 0 (by decide) (hts (.fieldLink RX1 9 "DialGarden$Dial" "kind" "I") (by decide +kernel)) (fun _ h9 => h9) rfl dX1_isA_14 ?_
    refine va_ti hx hb hE.2.2.2.2.2.2 hS (kd_in er4 c7) (v := .int (gKn (S.2.2.2.2 a0 0))) rfl dX1_isA_17 ?_
    refine lv_iload_n hx hb dX1_isA_18 rfl (lv_at hl 1 rfl) ?_
    refine lv_ishr hx hb dX1_isA_19 ?_
    refine lv_iconst (v := 1) hx hb dX1_isA_20 (by decide) ?_
    refine lv_iand hx hb dX1_isA_21 ?_
    refine lv_iconst (v := 1) hx hb dX1_isA_22 (by decide) ?_
    refine lv_icmp_ne (tgt := 30) hx hb dX1_isA_23 (by decide) (fun c23 => ?_) (fun c23 => ?_)
    · refine lv_iconst (v := 0) hx hb dX1_isA_30 (by decide) ?_
      exact W.zret (v := 0) hx hb hr rfl (fun t ht _ => ⟨0, rfl, by subst er4; first | (simp only [q_X1_isA, if_neg c7, if_neg c23]; done) | contradiction, ht⟩) (fun _ h => nomatch h) dX1_isA_31
    · refine lv_iconst (v := 1) hx hb dX1_isA_26 (by decide) ?_
      refine lv_goto (tgt := 31) hx hb dX1_isA_27 (by decide) ?_
      exact W.zret (v := 1) hx hb hr rfl (fun t ht _ => ⟨1, rfl, by subst er4; first | (simp only [q_X1_isA, if_neg c7, if_pos c23]; done) | contradiction, ht⟩) (fun _ h => nomatch h) dX1_isA_31
theorem qb_X1_isA (S : gSc) (a0 : Nat) (p1 : Int32) : q_X1_isA S a0 p1 = 0 ∨ q_X1_isA S a0 p1 = 1 := by
  unfold q_X1_isA
  repeat' (first | exact Or.inl rfl | exact Or.inr rfl | exact qb_X10_isKind _ | split | (simp only []; split))

def q_X1_hourLeft (S : gSc) (a0 : Nat) (p1 : Int32) : Int32 := ((S.2.2.2.2 a0 6) >>> (p1 &&& 31)) &&& 1
set_option maxHeartbeats 4000000 in
set_option maxRecDepth 100000 in
theorem c_X1_hourLeft (l : Launch) (E : gEE) (M : gSm) (S : gSc) (a0 : Nat) (p1 : Int32) (hLt : a0 ∈ S.2.2.1) (hkt : S.2.2.2.1 a0 = 1) : Met l yX1_hourLeft wsX1_hourLeft ({ frames := 0, cells := 0, slots := 0, locals := 0 }) (va_Pc [.ref (a0), .int (p1)] (gP E M S)) (vp_Si (fun r => r = q_X1_hourLeft S a0 p1)) 0 0 (fun _ => False) := by
  refine Met.ofW (cc := cX1_hourLeft) (maxL := 2) (ret := (some .int)) (by decide) rfl ?_
  intro p e s m args below meth c s₁ B hml hv
  obtain ⟨rfl, hE, hW⟩ := hv
  have hx := B.exec
  have hb := B.bytes
  have hr := B.returns
  have hts := atoms_spec (ws := wsX1_hourLeft) B.pre
  have hown : s.vm.findClass RX1 = some m.cls := findClass_of_methodNamed B.named
  have hlocks := B.notSynchronized
  have hinX1 : ∀ w ∈ wsX10, w ∈ wsX1_hourLeft := by decide +kernel
  have hS : va_S (eA E) s.heap s.heap [] := va_S.rf
  have hl := lv_entry ([.ref (a0), .int (p1)]) (n := 2) (Nat.le_of_ble_eq_true rfl)
  rw [lg_entry_eq]
  generalize (lg_sl ([.ref (a0), .int (p1)]) ++ List.replicate (2 - (lg_sl ([.ref (a0), .int (p1)])).length) Slot.unset).toArray = ls at hl ⊢
  have hl : lv_has ls 2 [(0, .ref (a0)), (1, .int (p1))] := hl
  refine lv_aload_n hx hb dX1_hourLeft_0 rfl (lv_at hl 0 rfl) ?_
  obtain ⟨k1, hk1⟩ := wJ_d E M (S := S) hLt hkt
  refine va_get (D := eD E) (cl := vwCl) (tys := eT E) (ci := 1) (C := RX1) (T := TX1) (N := 7) (v := .int (S.2.2.2.2 a0 6)) hx hb hts hinX1 hown hE.1 hW.1 k1 hk1 rfl 6 (by decide) (hts (.fieldLink RX1 30 "DialGarden$Dial" "hours" "I") (by decide +kernel)) (fun _ h9 => h9) rfl dX1_hourLeft_1 ?_
  refine lv_iload_n hx hb dX1_hourLeft_4 rfl (lv_at hl 1 rfl) ?_
  refine lv_ishr hx hb dX1_hourLeft_5 ?_
  refine lv_iconst (v := 1) hx hb dX1_hourLeft_6 (by decide) ?_
  refine lv_iand hx hb dX1_hourLeft_7 ?_
  exact W.iret (v := ((S.2.2.2.2 a0 6) >>> (p1 &&& 31)) &&& 1) hx hb hr (fun t ht _ => ⟨((S.2.2.2.2 a0 6) >>> (p1 &&& 31)) &&& 1, rfl, by first | (simp only [q_X1_hourLeft]; done) | contradiction, ht⟩) (fun _ h => nomatch h) dX1_hourLeft_8

def q_X1_sort (S : gSc) (a0 : Nat) : Int32 := 2 + (S.2.2.2.2 a0 0)
set_option maxHeartbeats 4000000 in
set_option maxRecDepth 100000 in
theorem c_X1_sort (l : Launch) (E : gEE) (M : gSm) (S : gSc) (a0 : Nat) (hLt : a0 ∈ S.2.2.1) (hkt : S.2.2.2.1 a0 = 1) : Met l yX1_sort wsX1_sort ({ frames := 0, cells := 0, slots := 0, locals := 0 }) (va_Pc [.ref (a0)] (gP E M S)) (vp_Si (fun r => r = q_X1_sort S a0)) 0 0 (fun _ => False) := by
  refine Met.ofW (cc := cX1_sort) (maxL := 1) (ret := (some .int)) (by decide) rfl ?_
  intro p e s m args below meth c s₁ B hml hv
  obtain ⟨rfl, hE, hW⟩ := hv
  have hx := B.exec
  have hb := B.bytes
  have hr := B.returns
  have hts := atoms_spec (ws := wsX1_sort) B.pre
  have hown : s.vm.findClass RX1 = some m.cls := findClass_of_methodNamed B.named
  have hlocks := B.notSynchronized
  have hinX1 : ∀ w ∈ wsX10, w ∈ wsX1_sort := by decide +kernel
  have hS : va_S (eA E) s.heap s.heap [] := va_S.rf
  have hl := lv_entry ([.ref (a0)]) (n := 1) (Nat.le_of_ble_eq_true rfl)
  rw [lg_entry_eq]
  generalize (lg_sl ([.ref (a0)]) ++ List.replicate (1 - (lg_sl ([.ref (a0)])).length) Slot.unset).toArray = ls at hl ⊢
  have hl : lv_has ls 1 [(0, .ref (a0))] := hl
  refine lv_iconst (v := 2) hx hb dX1_sort_0 (by decide) ?_
  refine lv_aload_n hx hb dX1_sort_1 rfl (lv_at hl 0 rfl) ?_
  obtain ⟨k2, hk2⟩ := wJ_d E M (S := S) hLt hkt
  refine va_get (D := eD E) (cl := vwCl) (tys := eT E) (ci := 1) (C := RX1) (T := TX1) (N := 7) (v := .int (S.2.2.2.2 a0 0)) hx hb hts hinX1 hown hE.1 hW.1 k2 hk2 rfl 0 (by decide) (hts (.fieldLink RX1 9 "DialGarden$Dial" "kind" "I") (by decide +kernel)) (fun _ h9 => h9) rfl dX1_sort_2 ?_
  refine lv_iadd hx hb dX1_sort_5 ?_
  exact W.iret (v := 2 + (S.2.2.2.2 a0 0)) hx hb hr (fun t ht _ => ⟨2 + (S.2.2.2.2 a0 0), rfl, by first | (simp only [q_X1_sort]; done) | contradiction, ht⟩) (fun _ h => nomatch h) dX1_sort_6

def q_X1_property (S : gSc) (a0 : Nat) (p1 : Int32) : Int32 := (if p1 = 0 then S.2.2.2.2 a0 1 else if p1 = 1 then S.2.2.2.2 a0 2 else if p1 = 2 then S.2.2.2.2 a0 3 else if p1 = 3 then (let r53 := q_X1_isA S a0 1; (if r53 = 0 then (-2000000005) else S.2.2.2.2 a0 4)) else if p1 = 4 then (let r71 := q_X1_isA S a0 2; (if r71 = 0 then (-2000000005) else S.2.2.2.2 a0 5)) else (let r89 := q_X1_isA S a0 4; (if r89 = 0 then (-2000000005) else (let r99 := q_J6_bitCount_0f7a4 (S.2.2.2.2 a0 6); r99))))
set_option maxHeartbeats 4000000 in
set_option maxRecDepth 100000 in
theorem c_X1_property (l : Launch) (E : gEE) (M : gSm) (S : gSc) (a0 : Nat) (p1 : Int32) (hLt : a0 ∈ S.2.2.1) (hkt : S.2.2.2.1 a0 = 1) : Met l yX1_property wsX1_property ({ frames := 3, cells := 0, slots := 0, locals := 66 }) (va_Pc [.ref (a0), .int (p1)] (gP E M S)) (vp_Si (fun r => r = q_X1_property S a0 p1)) 0 0 (fun _ => False) := by
  refine Met.ofW (cc := cX1_property) (maxL := 2) (ret := (some .int)) (by decide) rfl ?_
  intro p e s m args below meth c s₁ B hml hv
  obtain ⟨rfl, hE, hW⟩ := hv
  have hx := B.exec
  have hb := B.bytes
  have hr := B.returns
  have hts := atoms_spec (ws := wsX1_property) B.pre
  have hown : s.vm.findClass RX1 = some m.cls := findClass_of_methodNamed B.named
  have hlocks := B.notSynchronized
  have hinX1 : ∀ w ∈ wsX10, w ∈ wsX1_property := by decide +kernel
  have hS : va_S (eA E) s.heap s.heap [] := va_S.rf
  have hl := lv_entry ([.ref (a0), .int (p1)]) (n := 2) (Nat.le_of_ble_eq_true rfl)
  rw [lg_entry_eq]
  generalize (lg_sl ([.ref (a0), .int (p1)]) ++ List.replicate (2 - (lg_sl ([.ref (a0), .int (p1)])).length) Slot.unset).toArray = ls at hl ⊢
  have hl : lv_has ls 2 [(0, .ref (a0)), (1, .int (p1))] := hl
  refine lv_iload_n hx hb dX1_property_0 rfl (lv_at hl 1 rfl) ?_
  by_cases c1_0 : p1 = 0
  · refine lv_tableIn (tgt := 36) (off := 35) hx hb dX1_property_1 (by rw [c1_0]; decide) (by rw [c1_0]; decide) (by rw [c1_0]; rfl) (by decide) ?_
    refine lv_aload_n hx hb dX1_property_36 rfl (lv_at hl 0 rfl) ?_
    obtain ⟨k37, hk37⟩ := wJ_d E M (S := S) hLt hkt
    refine va_get (D := eD E) (cl := vwCl) (tys := eT E) (ci := 1) (C := RX1) (T := TX1) (N := 7) (v := .int (S.2.2.2.2 a0 1)) hx hb hts hinX1 hown hE.1 hW.1 k37 hk37 rfl 1 (by decide) (hts (.fieldLink RX1 15 "DialGarden$Dial" "x" "I") (by decide +kernel)) (fun _ h9 => h9) rfl dX1_property_37 ?_
    exact W.iret (v := S.2.2.2.2 a0 1) hx hb hr (fun t ht _ => ⟨S.2.2.2.2 a0 1, rfl, by first | (simp only [q_X1_property, if_pos c1_0]; done) | contradiction, ht⟩) (fun _ h => nomatch h) dX1_property_40
  by_cases c1_1 : p1 = 1
  · refine lv_tableIn (tgt := 41) (off := 40) hx hb dX1_property_1 (by rw [c1_1]; decide) (by rw [c1_1]; decide) (by rw [c1_1]; rfl) (by decide) ?_
    refine lv_aload_n hx hb dX1_property_41 rfl (lv_at hl 0 rfl) ?_
    obtain ⟨k42, hk42⟩ := wJ_d E M (S := S) hLt hkt
    refine va_get (D := eD E) (cl := vwCl) (tys := eT E) (ci := 1) (C := RX1) (T := TX1) (N := 7) (v := .int (S.2.2.2.2 a0 2)) hx hb hts hinX1 hown hE.1 hW.1 k42 hk42 rfl 2 (by decide) (hts (.fieldLink RX1 18 "DialGarden$Dial" "y" "I") (by decide +kernel)) (fun _ h9 => h9) rfl dX1_property_42 ?_
    exact W.iret (v := S.2.2.2.2 a0 2) hx hb hr (fun t ht _ => ⟨S.2.2.2.2 a0 2, rfl, by first | (simp only [q_X1_property, if_neg c1_0, if_pos c1_1]; done) | contradiction, ht⟩) (fun _ h => nomatch h) dX1_property_45
  by_cases c1_2 : p1 = 2
  · refine lv_tableIn (tgt := 46) (off := 45) hx hb dX1_property_1 (by rw [c1_2]; decide) (by rw [c1_2]; decide) (by rw [c1_2]; rfl) (by decide) ?_
    refine lv_aload_n hx hb dX1_property_46 rfl (lv_at hl 0 rfl) ?_
    obtain ⟨k47, hk47⟩ := wJ_d E M (S := S) hLt hkt
    refine va_get (D := eD E) (cl := vwCl) (tys := eT E) (ci := 1) (C := RX1) (T := TX1) (N := 7) (v := .int (S.2.2.2.2 a0 3)) hx hb hts hinX1 hown hE.1 hW.1 k47 hk47 rfl 3 (by decide) (hts (.fieldLink RX1 21 "DialGarden$Dial" "rod" "I") (by decide +kernel)) (fun _ h9 => h9) rfl dX1_property_47 ?_
    exact W.iret (v := S.2.2.2.2 a0 3) hx hb hr (fun t ht _ => ⟨S.2.2.2.2 a0 3, rfl, by first | (simp only [q_X1_property, if_neg c1_0, if_neg c1_1, if_pos c1_2]; done) | contradiction, ht⟩) (fun _ h => nomatch h) dX1_property_50
  by_cases c1_3 : p1 = 3
  · refine lv_tableIn (tgt := 51) (off := 50) hx hb dX1_property_1 (by rw [c1_3]; decide) (by rw [c1_3]; decide) (by rw [c1_3]; rfl) (by decide) ?_
    refine lv_aload_n hx hb dX1_property_51 rfl (lv_at hl 0 rfl) ?_
    refine lv_iconst (v := 1) hx hb dX1_property_52 (by decide) ?_
    obtain ⟨k53, hk53⟩ := wJ_d E M (S := S) hLt hkt
    refine k_Si (va_runV (As := [.int (1)]) (rest := []) ⟨hx, hb, hml, hown, hts⟩ (c_X1_isA l E M S a0 1 hLt hkt) (cwV 1 hts gX1_property_X1_isA rfl rfl rfl (by decide +kernel) ⟨Nat.le_of_ble_eq_true rfl, Nat.le_of_ble_eq_true rfl⟩) (gP.V (ci := 1) (q := (RX1, TX1, 7)) hE hS hW rfl hk53) rfl rfl hl.1 rfl (lv_room (Nat.le_of_ble_eq_true rfl)) dX1_property_53 ⟨Nat.le_of_ble_eq_true rfl, Nat.le_of_ble_eq_true rfl⟩) (fun r53 er53 => ?_)
    refine lv_if_eq (tgt := 66) hx hb dX1_property_56 (by decide) (fun c56 => ?_) (fun c56 => ?_)
    · refine lv_ldc hx hb (v := (-2000000005)) hown (hts (.constant RX1 47 (-2000000005)) (by decide +kernel)) dX1_property_66 ?_
      exact W.iret (v := (-2000000005)) hx hb hr (fun t ht _ => ⟨(-2000000005), rfl, by subst er53; first | (simp only [q_X1_property, if_neg c1_0, if_neg c1_1, if_neg c1_2, if_pos c1_3, if_pos c56]; done) | contradiction, ht⟩) (fun _ h => nomatch h) dX1_property_68
    · refine lv_aload_n hx hb dX1_property_59 rfl (lv_at hl 0 rfl) ?_
      obtain ⟨k60, hk60⟩ := wJ_d E M (S := S) hLt hkt
      refine va_get (D := eD E) (cl := vwCl) (tys := eT E) (ci := 1) (C := RX1) (T := TX1) (N := 7) (v := .int (S.2.2.2.2 a0 4)) hx hb hts hinX1 hown hE.1 hW.1 k60 hk60 rfl 4 (by decide) (hts (.fieldLink RX1 24 "DialGarden$Dial" "facing" "I") (by decide +kernel)) (fun _ h9 => h9) rfl dX1_property_60 ?_
      refine lv_goto (tgt := 68) hx hb dX1_property_63 (by decide) ?_
      exact W.iret (v := S.2.2.2.2 a0 4) hx hb hr (fun t ht _ => ⟨S.2.2.2.2 a0 4, rfl, by subst er53; first | (simp only [q_X1_property, if_neg c1_0, if_neg c1_1, if_neg c1_2, if_pos c1_3, if_neg c56]; done) | contradiction, ht⟩) (fun _ h => nomatch h) dX1_property_68
  by_cases c1_4 : p1 = 4
  · refine lv_tableIn (tgt := 69) (off := 68) hx hb dX1_property_1 (by rw [c1_4]; decide) (by rw [c1_4]; decide) (by rw [c1_4]; rfl) (by decide) ?_
    refine lv_aload_n hx hb dX1_property_69 rfl (lv_at hl 0 rfl) ?_
    refine lv_iconst (v := 2) hx hb dX1_property_70 (by decide) ?_
    obtain ⟨k71, hk71⟩ := wJ_d E M (S := S) hLt hkt
    refine k_Si (va_runV (As := [.int (2)]) (rest := []) ⟨hx, hb, hml, hown, hts⟩ (c_X1_isA l E M S a0 2 hLt hkt) (cwV 1 hts gX1_property_X1_isA rfl rfl rfl (by decide +kernel) ⟨Nat.le_of_ble_eq_true rfl, Nat.le_of_ble_eq_true rfl⟩) (gP.V (ci := 1) (q := (RX1, TX1, 7)) hE hS hW rfl hk71) rfl rfl hl.1 rfl (lv_room (Nat.le_of_ble_eq_true rfl)) dX1_property_71 ⟨Nat.le_of_ble_eq_true rfl, Nat.le_of_ble_eq_true rfl⟩) (fun r71 er71 => ?_)
    refine lv_if_eq (tgt := 84) hx hb dX1_property_74 (by decide) (fun c74 => ?_) (fun c74 => ?_)
    · refine lv_ldc hx hb (v := (-2000000005)) hown (hts (.constant RX1 47 (-2000000005)) (by decide +kernel)) dX1_property_84 ?_
      exact W.iret (v := (-2000000005)) hx hb hr (fun t ht _ => ⟨(-2000000005), rfl, by subst er71; first | (simp only [q_X1_property, if_neg c1_0, if_neg c1_1, if_neg c1_2, if_neg c1_3, if_pos c1_4, if_pos c74]; done) | contradiction, ht⟩) (fun _ h => nomatch h) dX1_property_86
    · refine lv_aload_n hx hb dX1_property_77 rfl (lv_at hl 0 rfl) ?_
      obtain ⟨k78, hk78⟩ := wJ_d E M (S := S) hLt hkt
      refine va_get (D := eD E) (cl := vwCl) (tys := eT E) (ci := 1) (C := RX1) (T := TX1) (N := 7) (v := .int (S.2.2.2.2 a0 5)) hx hb hts hinX1 hown hE.1 hW.1 k78 hk78 rfl 5 (by decide) (hts (.fieldLink RX1 27 "DialGarden$Dial" "slant" "I") (by decide +kernel)) (fun _ h9 => h9) rfl dX1_property_78 ?_
      refine lv_goto (tgt := 86) hx hb dX1_property_81 (by decide) ?_
      exact W.iret (v := S.2.2.2.2 a0 5) hx hb hr (fun t ht _ => ⟨S.2.2.2.2 a0 5, rfl, by subst er71; first | (simp only [q_X1_property, if_neg c1_0, if_neg c1_1, if_neg c1_2, if_neg c1_3, if_pos c1_4, if_neg c74]; done) | contradiction, ht⟩) (fun _ h => nomatch h) dX1_property_86
  refine lv_tableOut (tgt := 87) hx hb dX1_property_1 (sw_out4 c1_0 c1_1 c1_2 c1_3 c1_4) (by decide) ?_
  refine lv_aload_n hx hb dX1_property_87 rfl (lv_at hl 0 rfl) ?_
  refine lv_iconst (v := 4) hx hb dX1_property_88 (by decide) ?_
  obtain ⟨k89, hk89⟩ := wJ_d E M (S := S) hLt hkt
  refine k_Si (va_runV (As := [.int (4)]) (rest := []) ⟨hx, hb, hml, hown, hts⟩ (c_X1_isA l E M S a0 4 hLt hkt) (cwV 1 hts gX1_property_X1_isA rfl rfl rfl (by decide +kernel) ⟨Nat.le_of_ble_eq_true rfl, Nat.le_of_ble_eq_true rfl⟩) (gP.V (ci := 1) (q := (RX1, TX1, 7)) hE hS hW rfl hk89) rfl rfl hl.1 rfl (lv_room (Nat.le_of_ble_eq_true rfl)) dX1_property_89 ⟨Nat.le_of_ble_eq_true rfl, Nat.le_of_ble_eq_true rfl⟩) (fun r89 er89 => ?_)
  refine lv_if_eq (tgt := 105) hx hb dX1_property_92 (by decide) (fun c92 => ?_) (fun c92 => ?_)
  · refine lv_ldc hx hb (v := (-2000000005)) hown (hts (.constant RX1 47 (-2000000005)) (by decide +kernel)) dX1_property_105 ?_
    exact W.iret (v := (-2000000005)) hx hb hr (fun t ht _ => ⟨(-2000000005), rfl, by subst er89; first | (simp only [q_X1_property, if_neg c1_0, if_neg c1_1, if_neg c1_2, if_neg c1_3, if_neg c1_4, if_pos c92]; done) | contradiction, ht⟩) (fun _ h => nomatch h) dX1_property_107
  · refine lv_aload_n hx hb dX1_property_95 rfl (lv_at hl 0 rfl) ?_
    obtain ⟨k96, hk96⟩ := wJ_d E M (S := S) hLt hkt
    refine va_get (D := eD E) (cl := vwCl) (tys := eT E) (ci := 1) (C := RX1) (T := TX1) (N := 7) (v := .int (S.2.2.2.2 a0 6)) hx hb hts hinX1 hown hE.1 hW.1 k96 hk96 rfl 6 (by decide) (hts (.fieldLink RX1 30 "DialGarden$Dial" "hours" "I") (by decide +kernel)) (fun _ h9 => h9) rfl dX1_property_96 ?_
    refine k_Si (va_runS (As := [.int (S.2.2.2.2 a0 6)]) (rest := []) ⟨hx, hb, hml, hown, hts⟩ (c_J6_bitCount_0f7a4 l (S.2.2.2.2 a0 6)) (va_cwS 1 hts gX1_property_J6_bitCount_0f7a4 rfl rfl rfl (by decide +kernel) ⟨Nat.le_of_ble_eq_true rfl, Nat.le_of_ble_eq_true rfl⟩) gP0 rfl rfl hl.1 rfl (lv_room (Nat.le_of_ble_eq_true rfl)) dX1_property_99 ⟨Nat.le_of_ble_eq_true rfl, Nat.le_of_ble_eq_true rfl⟩) (fun r99 er99 => ?_)
    refine lv_goto (tgt := 107) hx hb dX1_property_102 (by decide) ?_
    exact W.iret (v := r99) hx hb hr (fun t ht _ => ⟨r99, rfl, by subst er99; subst er89; first | (simp only [q_X1_property, if_neg c1_0, if_neg c1_1, if_neg c1_2, if_neg c1_3, if_neg c1_4, if_neg c92]; done) | contradiction, ht⟩) (fun _ h => nomatch h) dX1_property_107

def q_X2_sort (S : gSc) (a0 : Nat) : Int32 := 1
set_option maxHeartbeats 4000000 in
set_option maxRecDepth 100000 in
theorem c_X2_sort (l : Launch) (E : gEE) (M : gSm) (S : gSc) (a0 : Nat) (hLt : a0 ∈ S.2.2.1) (hkt : ¬ S.2.2.2.1 a0 = 1) : Met l yX2_sort wsX2_sort ({ frames := 0, cells := 0, slots := 0, locals := 0 }) (va_Pc [.ref (a0)] (gP E M S)) (vp_Si (fun r => r = q_X2_sort S a0)) 0 0 (fun _ => False) := by
  refine Met.ofW (cc := cX2_sort) (maxL := 1) (ret := (some .int)) (by decide) rfl ?_
  intro p e s m args below meth c s₁ B hml hv
  obtain ⟨rfl, hE, hW⟩ := hv
  have hx := B.exec
  have hb := B.bytes
  have hr := B.returns
  have hts := atoms_spec (ws := wsX2_sort) B.pre
  have hown : s.vm.findClass RX2 = some m.cls := findClass_of_methodNamed B.named
  have hlocks := B.notSynchronized
  have hS : va_S (eA E) s.heap s.heap [] := va_S.rf
  have hl := lv_entry ([.ref (a0)]) (n := 1) (Nat.le_of_ble_eq_true rfl)
  rw [lg_entry_eq]
  generalize (lg_sl ([.ref (a0)]) ++ List.replicate (1 - (lg_sl ([.ref (a0)])).length) Slot.unset).toArray = ls at hl ⊢
  have hl : lv_has ls 1 [(0, .ref (a0))] := hl
  refine lv_iconst (v := 1) hx hb dX2_sort_0 (by decide) ?_
  exact W.iret (v := 1) hx hb hr (fun t ht _ => ⟨1, rfl, by first | (simp only [q_X2_sort]; done) | contradiction, ht⟩) (fun _ h => nomatch h) dX2_sort_1

def q_X2_property (S : gSc) (a0 : Nat) (p1 : Int32) : Int32 := (if p1 = 0 then S.2.2.2.2 a0 0 else if p1 = 1 then S.2.2.2.2 a0 1 else if p1 = 2 then S.2.2.2.2 a0 2 else if p1 = 3 then S.2.2.2.2 a0 3 else if p1 = 4 then S.2.2.2.2 a0 4 else (-2000000005))
set_option maxHeartbeats 4000000 in
set_option maxRecDepth 100000 in
theorem c_X2_property (l : Launch) (E : gEE) (M : gSm) (S : gSc) (a0 : Nat) (p1 : Int32) (hLt : a0 ∈ S.2.2.1) (hkt : ¬ S.2.2.2.1 a0 = 1) : Met l yX2_property wsX2_property ({ frames := 0, cells := 0, slots := 0, locals := 0 }) (va_Pc [.ref (a0), .int (p1)] (gP E M S)) (vp_Si (fun r => r = q_X2_property S a0 p1)) 0 0 (fun _ => False) := by
  refine Met.ofW (cc := cX2_property) (maxL := 2) (ret := (some .int)) (by decide) rfl ?_
  intro p e s m args below meth c s₁ B hml hv
  obtain ⟨rfl, hE, hW⟩ := hv
  have hx := B.exec
  have hb := B.bytes
  have hr := B.returns
  have hts := atoms_spec (ws := wsX2_property) B.pre
  have hown : s.vm.findClass RX2 = some m.cls := findClass_of_methodNamed B.named
  have hlocks := B.notSynchronized
  have hinX2 : ∀ w ∈ wsX20, w ∈ wsX2_property := by decide +kernel
  have hS : va_S (eA E) s.heap s.heap [] := va_S.rf
  have hl := lv_entry ([.ref (a0), .int (p1)]) (n := 2) (Nat.le_of_ble_eq_true rfl)
  rw [lg_entry_eq]
  generalize (lg_sl ([.ref (a0), .int (p1)]) ++ List.replicate (2 - (lg_sl ([.ref (a0), .int (p1)])).length) Slot.unset).toArray = ls at hl ⊢
  have hl : lv_has ls 2 [(0, .ref (a0)), (1, .int (p1))] := hl
  refine lv_iload_n hx hb dX2_property_0 rfl (lv_at hl 1 rfl) ?_
  by_cases c1_0 : p1 = 0
  · refine lv_tableIn (tgt := 36) (off := 35) hx hb dX2_property_1 (by rw [c1_0]; decide) (by rw [c1_0]; decide) (by rw [c1_0]; rfl) (by decide) ?_
    refine lv_aload_n hx hb dX2_property_36 rfl (lv_at hl 0 rfl) ?_
    obtain ⟨k37, hk37⟩ := wJ_h E M (S := S) hLt hkt
    refine va_get (D := eD E) (cl := vwCl) (tys := eT E) (ci := 2) (C := RX2) (T := TX2) (N := 5) (v := .int (S.2.2.2.2 a0 0)) hx hb hts hinX2 hown hE.1 hW.1 k37 hk37 rfl 0 (by decide) (hts (.fieldLink RX2 9 "DialGarden$House" "x1" "I") (by decide +kernel)) (fun _ h9 => h9) rfl dX2_property_37 ?_
    exact W.iret (v := S.2.2.2.2 a0 0) hx hb hr (fun t ht _ => ⟨S.2.2.2.2 a0 0, rfl, by first | (simp only [q_X2_property, if_pos c1_0]; done) | contradiction, ht⟩) (fun _ h => nomatch h) dX2_property_40
  by_cases c1_1 : p1 = 1
  · refine lv_tableIn (tgt := 41) (off := 40) hx hb dX2_property_1 (by rw [c1_1]; decide) (by rw [c1_1]; decide) (by rw [c1_1]; rfl) (by decide) ?_
    refine lv_aload_n hx hb dX2_property_41 rfl (lv_at hl 0 rfl) ?_
    obtain ⟨k42, hk42⟩ := wJ_h E M (S := S) hLt hkt
    refine va_get (D := eD E) (cl := vwCl) (tys := eT E) (ci := 2) (C := RX2) (T := TX2) (N := 5) (v := .int (S.2.2.2.2 a0 1)) hx hb hts hinX2 hown hE.1 hW.1 k42 hk42 rfl 1 (by decide) (hts (.fieldLink RX2 15 "DialGarden$House" "y1" "I") (by decide +kernel)) (fun _ h9 => h9) rfl dX2_property_42 ?_
    exact W.iret (v := S.2.2.2.2 a0 1) hx hb hr (fun t ht _ => ⟨S.2.2.2.2 a0 1, rfl, by first | (simp only [q_X2_property, if_neg c1_0, if_pos c1_1]; done) | contradiction, ht⟩) (fun _ h => nomatch h) dX2_property_45
  by_cases c1_2 : p1 = 2
  · refine lv_tableIn (tgt := 46) (off := 45) hx hb dX2_property_1 (by rw [c1_2]; decide) (by rw [c1_2]; decide) (by rw [c1_2]; rfl) (by decide) ?_
    refine lv_aload_n hx hb dX2_property_46 rfl (lv_at hl 0 rfl) ?_
    obtain ⟨k47, hk47⟩ := wJ_h E M (S := S) hLt hkt
    refine va_get (D := eD E) (cl := vwCl) (tys := eT E) (ci := 2) (C := RX2) (T := TX2) (N := 5) (v := .int (S.2.2.2.2 a0 2)) hx hb hts hinX2 hown hE.1 hW.1 k47 hk47 rfl 2 (by decide) (hts (.fieldLink RX2 18 "DialGarden$House" "x2" "I") (by decide +kernel)) (fun _ h9 => h9) rfl dX2_property_47 ?_
    exact W.iret (v := S.2.2.2.2 a0 2) hx hb hr (fun t ht _ => ⟨S.2.2.2.2 a0 2, rfl, by first | (simp only [q_X2_property, if_neg c1_0, if_neg c1_1, if_pos c1_2]; done) | contradiction, ht⟩) (fun _ h => nomatch h) dX2_property_50
  by_cases c1_3 : p1 = 3
  · refine lv_tableIn (tgt := 51) (off := 50) hx hb dX2_property_1 (by rw [c1_3]; decide) (by rw [c1_3]; decide) (by rw [c1_3]; rfl) (by decide) ?_
    refine lv_aload_n hx hb dX2_property_51 rfl (lv_at hl 0 rfl) ?_
    obtain ⟨k52, hk52⟩ := wJ_h E M (S := S) hLt hkt
    refine va_get (D := eD E) (cl := vwCl) (tys := eT E) (ci := 2) (C := RX2) (T := TX2) (N := 5) (v := .int (S.2.2.2.2 a0 3)) hx hb hts hinX2 hown hE.1 hW.1 k52 hk52 rfl 3 (by decide) (hts (.fieldLink RX2 21 "DialGarden$House" "y2" "I") (by decide +kernel)) (fun _ h9 => h9) rfl dX2_property_52 ?_
    exact W.iret (v := S.2.2.2.2 a0 3) hx hb hr (fun t ht _ => ⟨S.2.2.2.2 a0 3, rfl, by first | (simp only [q_X2_property, if_neg c1_0, if_neg c1_1, if_neg c1_2, if_pos c1_3]; done) | contradiction, ht⟩) (fun _ h => nomatch h) dX2_property_55
  by_cases c1_4 : p1 = 4
  · refine lv_tableIn (tgt := 56) (off := 55) hx hb dX2_property_1 (by rw [c1_4]; decide) (by rw [c1_4]; decide) (by rw [c1_4]; rfl) (by decide) ?_
    refine lv_aload_n hx hb dX2_property_56 rfl (lv_at hl 0 rfl) ?_
    obtain ⟨k57, hk57⟩ := wJ_h E M (S := S) hLt hkt
    refine va_get (D := eD E) (cl := vwCl) (tys := eT E) (ci := 2) (C := RX2) (T := TX2) (N := 5) (v := .int (S.2.2.2.2 a0 4)) hx hb hts hinX2 hown hE.1 hW.1 k57 hk57 rfl 4 (by decide) (hts (.fieldLink RX2 24 "DialGarden$House" "height" "I") (by decide +kernel)) (fun _ h9 => h9) rfl dX2_property_57 ?_
    exact W.iret (v := S.2.2.2.2 a0 4) hx hb hr (fun t ht _ => ⟨S.2.2.2.2 a0 4, rfl, by first | (simp only [q_X2_property, if_neg c1_0, if_neg c1_1, if_neg c1_2, if_neg c1_3, if_pos c1_4]; done) | contradiction, ht⟩) (fun _ h => nomatch h) dX2_property_60
  refine lv_tableOut (tgt := 61) hx hb dX2_property_1 (sw_out4 c1_0 c1_1 c1_2 c1_3 c1_4) (by decide) ?_
  refine lv_ldc hx hb (v := (-2000000005)) hown (hts (.constant RX2 27 (-2000000005)) (by decide +kernel)) dX2_property_61 ?_
  exact W.iret (v := (-2000000005)) hx hb hr (fun t ht _ => ⟨(-2000000005), rfl, by first | (simp only [q_X2_property, if_neg c1_0, if_neg c1_1, if_neg c1_2, if_neg c1_3, if_neg c1_4]; done) | contradiction, ht⟩) (fun _ h => nomatch h) dX2_property_63

def q_X2_hidesFrom_b141 (S : gSc) (a0 : Nat) (p1 : Int32) (p2 : Int32) (v16 : Int64) (v18 : Int64) : Int32 := (if v16 = 0 then 0 else (if v18 ≤ 0 then 0 else (if (((S.2.2.2.2 a0 4).toInt64) * v16) ≤ (((S.1 1 15).toInt64) * v18) then 0 else 1)))
def q_X2_hidesFrom_b104 (S : gSc) (a0 : Nat) (p1 : Int32) (p2 : Int32) (v4 : Int64) (v6 : Int64) (v8 : Int64) (v10 : Int64) (v12 : Int64) (v14 : Int64) : Int32 := (let x109 := v14 - v12; (let x122 := (v4 * v10) - (v6 * v8); (if 0 ≤ x109 then q_X2_hidesFrom_b141 S a0 p1 p2 x109 x122 else (let x134 := -x109; (let x139 := -x122; q_X2_hidesFrom_b141 S a0 p1 p2 x134 x139)))))
def q_X2_hidesFrom (S : gSc) (a0 : Nat) (p1 : Int32) (p2 : Int32) : Int32 := (let x7 := ((S.2.2.2.2 a0 0) - p1).toInt64; (let x16 := ((S.2.2.2.2 a0 1) - p2).toInt64; (let x25 := ((S.2.2.2.2 a0 2) - p1).toInt64; (let x34 := ((S.2.2.2.2 a0 3) - p2).toInt64; (let x53 := (((S.1 1 13).toInt64) * x16) - (((S.1 1 14).toInt64) * x7); (let x72 := (((S.1 1 13).toInt64) * x34) - (((S.1 1 14).toInt64) * x25); (if x53 ≤ 0 then (if 0 ≤ x53 then q_X2_hidesFrom_b104 S a0 p1 p2 x7 x16 x25 x34 x53 x72 else (if 0 ≤ x72 then q_X2_hidesFrom_b104 S a0 p1 p2 x7 x16 x25 x34 x53 x72 else 0)) else (if 0 < x72 then 0 else (if 0 ≤ x53 then q_X2_hidesFrom_b104 S a0 p1 p2 x7 x16 x25 x34 x53 x72 else (if 0 ≤ x72 then q_X2_hidesFrom_b104 S a0 p1 p2 x7 x16 x25 x34 x53 x72 else 0))))))))))
set_option maxHeartbeats 4000000 in
set_option maxRecDepth 100000 in
theorem c_X2_hidesFrom (l : Launch) (E : gEE) (M : gSm) (S : gSc) (a0 : Nat) (p1 : Int32) (p2 : Int32) (hLt : a0 ∈ S.2.2.1) (hkt : ¬ S.2.2.2.1 a0 = 1) : Met l yX2_hidesFrom wsX2_hidesFrom ({ frames := 0, cells := 0, slots := 0, locals := 0 }) (va_Pc [.ref (a0), .int (p1), .int (p2), .ref (eC E 1)] (gP E M S)) (vp_Si (fun r => r = q_X2_hidesFrom S a0 p1 p2)) 0 0 (fun _ => False) := by
  refine Met.ofW (cc := cX2_hidesFrom) (maxL := 20) (ret := (some .boolean)) (by decide) rfl ?_
  intro p e s m args below meth c s₁ B hml hv
  obtain ⟨rfl, hE, hW⟩ := hv
  have hx := B.exec
  have hb := B.bytes
  have hr := B.returns
  have hts := atoms_spec (ws := wsX2_hidesFrom) B.pre
  have hown : s.vm.findClass RX2 = some m.cls := findClass_of_methodNamed B.named
  have hlocks := B.notSynchronized
  have hinX2 : ∀ w ∈ wsX20, w ∈ wsX2_hidesFrom := by decide +kernel
  have hinX8 : ∀ w ∈ wsX80, w ∈ wsX2_hidesFrom := by decide +kernel
  have hS : va_S (eA E) s.heap s.heap [] := va_S.rf
  have hl := lv_entry ([.ref (a0), .int (p1), .int (p2), .ref (eC E 1)]) (n := 20) (Nat.le_of_ble_eq_true rfl)
  rw [lg_entry_eq]
  generalize (lg_sl ([.ref (a0), .int (p1), .int (p2), .ref (eC E 1)]) ++ List.replicate (20 - (lg_sl ([.ref (a0), .int (p1), .int (p2), .ref (eC E 1)])).length) Slot.unset).toArray = ls at hl ⊢
  have hl : lv_has ls 20 [(0, .ref (a0)), (1, .int (p1)), (2, .int (p2)), (3, .ref (eC E 1))] := hl
  have J141 : ∀ (v16 : Int64) (v18 : Int64) (ls : Array Slot), q_X2_hidesFrom S a0 p1 p2 = q_X2_hidesFrom_b141 S a0 p1 p2 v16 v18 → lv_has ls 20 [(0, .ref (a0)), (3, .ref (eC E 1)), (16, .long (v16)), (18, .long (v18))] → W p l e (headSpec wsX2_hidesFrom ({ frames := 0, cells := 0, slots := 0, locals := 0 })).room s m ([.ref (a0), .int (p1), .int (p2), .ref (eC E 1)] : List Value).toArray below meth c s.heap [] 0 0 (MQ below (vp_Si (fun r => r = q_X2_hidesFrom S a0 p1 p2)) ([.ref (a0), .int (p1), .int (p2), .ref (eC E 1)] : List Value).toArray s 0 0 (fun _ => False)) (F0 m 141 ls []) := by
    intro v16 v18 ls hq hl
    refine lv_lload hx hb dX2_hidesFrom_141 (lv_at hl 2 rfl) ?_
    refine lv_lconst (v := 0) hx hb dX2_hidesFrom_143 (by decide) ?_
    refine k_leq (tgt := 179) hx hb dX2_hidesFrom_144 dX2_hidesFrom_145 (by decide) (fun c144 => ?_) (fun c144 => ?_)
    · refine lv_iconst (v := 0) hx hb dX2_hidesFrom_179 (by decide) ?_
      exact W.zret (v := 0) hx hb hr rfl (fun t ht _ => ⟨0, rfl, by rw [hq]; first | (simp only [q_X2_hidesFrom_b141, if_pos c144]; done) | contradiction, ht⟩) (fun _ h => nomatch h) dX2_hidesFrom_180
    · refine lv_lload hx hb dX2_hidesFrom_148 (lv_at hl 3 rfl) ?_
      refine lv_lconst (v := 0) hx hb dX2_hidesFrom_150 (by decide) ?_
      refine k_lle (tgt := 179) hx hb dX2_hidesFrom_151 dX2_hidesFrom_152 (by decide) (fun c151 => ?_) (fun c151 => ?_)
      · refine lv_iconst (v := 0) hx hb dX2_hidesFrom_179 (by decide) ?_
        exact W.zret (v := 0) hx hb hr rfl (fun t ht _ => ⟨0, rfl, by rw [hq]; first | (simp only [q_X2_hidesFrom_b141, if_neg c144, if_pos c151]; done) | contradiction, ht⟩) (fun _ h => nomatch h) dX2_hidesFrom_180
      · refine lv_aload_n hx hb dX2_hidesFrom_155 rfl (lv_at hl 1 rfl) ?_
        refine va_getN (D := eD E) (cl := vwCl) (tys := eT E) (ci := 8) (C := RX8) (T := TX8) (N := 16) (v := .int (S.1 1 15)) hx hb hts hinX8 hown hE.1 hW.1 12 rfl rfl 15 (by decide) (va_Nw.use rfl (hE.2.2.1 (.fieldLinkNest "DialGarden$House" 36 "DialGarden$Sky" "up" "I" "DialGarden") (by decide +kernel))) (fun _ h9 => h9) rfl dX2_hidesFrom_156 ?_
        refine lv_i2l (v := (S.1 1 15).toInt64) hx hb dX2_hidesFrom_159 rfl ?_
        refine lv_lload hx hb dX2_hidesFrom_160 (lv_at hl 3 rfl) ?_
        refine lv_lmul hx hb dX2_hidesFrom_162 ?_
        refine lv_aload_n hx hb dX2_hidesFrom_163 rfl (lv_at hl 0 rfl) ?_
        obtain ⟨k164, hk164⟩ := wJ_h E M (S := S) hLt hkt
        refine va_get (D := eD E) (cl := vwCl) (tys := eT E) (ci := 2) (C := RX2) (T := TX2) (N := 5) (v := .int (S.2.2.2.2 a0 4)) hx hb hts hinX2 hown hE.1 hW.1 k164 hk164 rfl 4 (by decide) (hts (.fieldLink RX2 24 "DialGarden$House" "height" "I") (by decide +kernel)) (fun _ h9 => h9) rfl dX2_hidesFrom_164 ?_
        refine lv_i2l (v := (S.2.2.2.2 a0 4).toInt64) hx hb dX2_hidesFrom_167 rfl ?_
        refine lv_lload hx hb dX2_hidesFrom_168 (lv_at hl 2 rfl) ?_
        refine lv_lmul hx hb dX2_hidesFrom_170 ?_
        refine k_lge (tgt := 179) hx hb dX2_hidesFrom_171 dX2_hidesFrom_172 (by decide) (fun c171 => ?_) (fun c171 => ?_)
        · refine lv_iconst (v := 0) hx hb dX2_hidesFrom_179 (by decide) ?_
          exact W.zret (v := 0) hx hb hr rfl (fun t ht _ => ⟨0, rfl, by rw [hq]; first | (simp only [q_X2_hidesFrom_b141, if_neg c144, if_neg c151, if_pos c171]; done) | contradiction, ht⟩) (fun _ h => nomatch h) dX2_hidesFrom_180
        · refine lv_iconst (v := 1) hx hb dX2_hidesFrom_175 (by decide) ?_
          refine lv_goto (tgt := 180) hx hb dX2_hidesFrom_176 (by decide) ?_
          exact W.zret (v := 1) hx hb hr rfl (fun t ht _ => ⟨1, rfl, by rw [hq]; first | (simp only [q_X2_hidesFrom_b141, if_neg c144, if_neg c151, if_neg c171]; done) | contradiction, ht⟩) (fun _ h => nomatch h) dX2_hidesFrom_180
  have J104 : ∀ (v4 : Int64) (v6 : Int64) (v8 : Int64) (v10 : Int64) (v12 : Int64) (v14 : Int64) (ls : Array Slot), q_X2_hidesFrom S a0 p1 p2 = q_X2_hidesFrom_b104 S a0 p1 p2 v4 v6 v8 v10 v12 v14 → lv_has ls 20 [(0, .ref (a0)), (3, .ref (eC E 1)), (4, .long (v4)), (6, .long (v6)), (8, .long (v8)), (10, .long (v10)), (12, .long (v12)), (14, .long (v14))] → W p l e (headSpec wsX2_hidesFrom ({ frames := 0, cells := 0, slots := 0, locals := 0 })).room s m ([.ref (a0), .int (p1), .int (p2), .ref (eC E 1)] : List Value).toArray below meth c s.heap [] 0 0 (MQ below (vp_Si (fun r => r = q_X2_hidesFrom S a0 p1 p2)) ([.ref (a0), .int (p1), .int (p2), .ref (eC E 1)] : List Value).toArray s 0 0 (fun _ => False)) (F0 m 104 ls []) := by
    intro v4 v6 v8 v10 v12 v14 ls hq hl
    refine lv_lload hx hb dX2_hidesFrom_104 (lv_at hl 7 rfl) ?_
    refine lv_lload hx hb dX2_hidesFrom_106 (lv_at hl 6 rfl) ?_
    refine lv_lsub hx hb dX2_hidesFrom_108 ?_
    refine lv_topl (fun x109 ex109 => ?_)
    refine lv_lstore (lv' := [(16, .long (x109)), (0, .ref (a0)), (3, .ref (eC E 1)), (4, .long (v4)), (6, .long (v6)), (8, .long (v8)), (10, .long (v10)), (12, .long (v12)), (14, .long (v14))]) hx hb dX2_hidesFrom_109 hl (by decide) rfl (fun ls hl => ?_)
    refine lv_lload hx hb dX2_hidesFrom_111 (lv_at hl 3 rfl) ?_
    refine lv_lload hx hb dX2_hidesFrom_113 (lv_at hl 6 rfl) ?_
    refine lv_lmul hx hb dX2_hidesFrom_115 ?_
    refine lv_lload hx hb dX2_hidesFrom_116 (lv_at hl 4 rfl) ?_
    refine lv_lload hx hb dX2_hidesFrom_118 (lv_at hl 5 rfl) ?_
    refine lv_lmul hx hb dX2_hidesFrom_120 ?_
    refine lv_lsub hx hb dX2_hidesFrom_121 ?_
    refine lv_topl (fun x122 ex122 => ?_)
    refine lv_lstore (lv' := [(18, .long (x122)), (16, .long (x109)), (0, .ref (a0)), (3, .ref (eC E 1)), (4, .long (v4)), (6, .long (v6)), (8, .long (v8)), (10, .long (v10)), (12, .long (v12)), (14, .long (v14))]) hx hb dX2_hidesFrom_122 hl (by decide) rfl (fun ls hl => ?_)
    refine lv_lload hx hb dX2_hidesFrom_124 (lv_at hl 1 rfl) ?_
    refine lv_lconst (v := 0) hx hb dX2_hidesFrom_126 (by decide) ?_
    refine k_lge (tgt := 141) hx hb dX2_hidesFrom_127 dX2_hidesFrom_128 (by decide) (fun c127 => ?_) (fun c127 => ?_)
    · exact J141 _ _ _ (by rw [hq]; subst ex122; subst ex109; first | (simp only [q_X2_hidesFrom_b104, if_pos c127]; done) | contradiction) (lv_sub hl [2, 3, 1, 0] rfl)
    · refine lv_lload hx hb dX2_hidesFrom_131 (lv_at hl 1 rfl) ?_
      refine lv_lneg hx hb dX2_hidesFrom_133 ?_
      refine lv_topl (fun x134 ex134 => ?_)
      refine lv_lstore (lv' := [(16, .long (x134)), (18, .long (x122)), (0, .ref (a0)), (3, .ref (eC E 1)), (4, .long (v4)), (6, .long (v6)), (8, .long (v8)), (10, .long (v10)), (12, .long (v12)), (14, .long (v14))]) hx hb dX2_hidesFrom_134 hl (by decide) rfl (fun ls hl => ?_)
      refine lv_lload hx hb dX2_hidesFrom_136 (lv_at hl 1 rfl) ?_
      refine lv_lneg hx hb dX2_hidesFrom_138 ?_
      refine lv_topl (fun x139 ex139 => ?_)
      refine lv_lstore (lv' := [(18, .long (x139)), (16, .long (x134)), (0, .ref (a0)), (3, .ref (eC E 1)), (4, .long (v4)), (6, .long (v6)), (8, .long (v8)), (10, .long (v10)), (12, .long (v12)), (14, .long (v14))]) hx hb dX2_hidesFrom_139 hl (by decide) rfl (fun ls hl => ?_)
      exact J141 _ _ _ (by rw [hq]; subst ex139; subst ex134; subst ex122; subst ex109; first | (simp only [q_X2_hidesFrom_b104, if_neg c127]; done) | contradiction) (lv_sub hl [2, 3, 1, 0] rfl)
  refine lv_aload_n hx hb dX2_hidesFrom_0 rfl (lv_at hl 0 rfl) ?_
  obtain ⟨k1, hk1⟩ := wJ_h E M (S := S) hLt hkt
  refine va_get (D := eD E) (cl := vwCl) (tys := eT E) (ci := 2) (C := RX2) (T := TX2) (N := 5) (v := .int (S.2.2.2.2 a0 0)) hx hb hts hinX2 hown hE.1 hW.1 k1 hk1 rfl 0 (by decide) (hts (.fieldLink RX2 9 "DialGarden$House" "x1" "I") (by decide +kernel)) (fun _ h9 => h9) rfl dX2_hidesFrom_1 ?_
  refine lv_iload_n hx hb dX2_hidesFrom_4 rfl (lv_at hl 1 rfl) ?_
  refine lv_isub hx hb dX2_hidesFrom_5 ?_
  refine lv_i2l (v := ((S.2.2.2.2 a0 0) - p1).toInt64) hx hb dX2_hidesFrom_6 rfl ?_
  refine lv_topl (fun x7 ex7 => ?_)
  refine lv_lstore (lv' := [(4, .long (x7)), (0, .ref (a0)), (1, .int (p1)), (2, .int (p2)), (3, .ref (eC E 1))]) hx hb dX2_hidesFrom_7 hl (by decide) rfl (fun ls hl => ?_)
  refine lv_aload_n hx hb dX2_hidesFrom_9 rfl (lv_at hl 1 rfl) ?_
  obtain ⟨k10, hk10⟩ := wJ_h E M (S := S) hLt hkt
  refine va_get (D := eD E) (cl := vwCl) (tys := eT E) (ci := 2) (C := RX2) (T := TX2) (N := 5) (v := .int (S.2.2.2.2 a0 1)) hx hb hts hinX2 hown hE.1 hW.1 k10 hk10 rfl 1 (by decide) (hts (.fieldLink RX2 15 "DialGarden$House" "y1" "I") (by decide +kernel)) (fun _ h9 => h9) rfl dX2_hidesFrom_10 ?_
  refine lv_iload_n hx hb dX2_hidesFrom_13 rfl (lv_at hl 3 rfl) ?_
  refine lv_isub hx hb dX2_hidesFrom_14 ?_
  refine lv_i2l (v := ((S.2.2.2.2 a0 1) - p2).toInt64) hx hb dX2_hidesFrom_15 rfl ?_
  refine lv_topl (fun x16 ex16 => ?_)
  refine lv_lstore (lv' := [(6, .long (x16)), (4, .long (x7)), (0, .ref (a0)), (1, .int (p1)), (2, .int (p2)), (3, .ref (eC E 1))]) hx hb dX2_hidesFrom_16 hl (by decide) rfl (fun ls hl => ?_)
  refine lv_aload_n hx hb dX2_hidesFrom_18 rfl (lv_at hl 2 rfl) ?_
  obtain ⟨k19, hk19⟩ := wJ_h E M (S := S) hLt hkt
  refine va_get (D := eD E) (cl := vwCl) (tys := eT E) (ci := 2) (C := RX2) (T := TX2) (N := 5) (v := .int (S.2.2.2.2 a0 2)) hx hb hts hinX2 hown hE.1 hW.1 k19 hk19 rfl 2 (by decide) (hts (.fieldLink RX2 18 "DialGarden$House" "x2" "I") (by decide +kernel)) (fun _ h9 => h9) rfl dX2_hidesFrom_19 ?_
  refine lv_iload_n hx hb dX2_hidesFrom_22 rfl (lv_at hl 3 rfl) ?_
  refine lv_isub hx hb dX2_hidesFrom_23 ?_
  refine lv_i2l (v := ((S.2.2.2.2 a0 2) - p1).toInt64) hx hb dX2_hidesFrom_24 rfl ?_
  refine lv_topl (fun x25 ex25 => ?_)
  refine lv_lstore (lv' := [(8, .long (x25)), (6, .long (x16)), (4, .long (x7)), (0, .ref (a0)), (1, .int (p1)), (2, .int (p2)), (3, .ref (eC E 1))]) hx hb dX2_hidesFrom_25 hl (by decide) rfl (fun ls hl => ?_)
  refine lv_aload_n hx hb dX2_hidesFrom_27 rfl (lv_at hl 3 rfl) ?_
  obtain ⟨k28, hk28⟩ := wJ_h E M (S := S) hLt hkt
  refine va_get (D := eD E) (cl := vwCl) (tys := eT E) (ci := 2) (C := RX2) (T := TX2) (N := 5) (v := .int (S.2.2.2.2 a0 3)) hx hb hts hinX2 hown hE.1 hW.1 k28 hk28 rfl 3 (by decide) (hts (.fieldLink RX2 21 "DialGarden$House" "y2" "I") (by decide +kernel)) (fun _ h9 => h9) rfl dX2_hidesFrom_28 ?_
  refine lv_iload_n hx hb dX2_hidesFrom_31 rfl (lv_at hl 5 rfl) ?_
  refine lv_isub hx hb dX2_hidesFrom_32 ?_
  refine lv_i2l (v := ((S.2.2.2.2 a0 3) - p2).toInt64) hx hb dX2_hidesFrom_33 rfl ?_
  refine lv_topl (fun x34 ex34 => ?_)
  refine lv_lstore (lv' := [(10, .long (x34)), (8, .long (x25)), (6, .long (x16)), (4, .long (x7)), (0, .ref (a0)), (1, .int (p1)), (2, .int (p2)), (3, .ref (eC E 1))]) hx hb dX2_hidesFrom_34 hl (by decide) rfl (fun ls hl => ?_)
  refine lv_aload_n hx hb dX2_hidesFrom_36 rfl (lv_at hl 7 rfl) ?_
  refine va_getN (D := eD E) (cl := vwCl) (tys := eT E) (ci := 8) (C := RX8) (T := TX8) (N := 16) (v := .int (S.1 1 13)) hx hb hts hinX8 hown hE.1 hW.1 12 rfl rfl 13 (by decide) (va_Nw.use rfl (hE.2.2.1 (.fieldLinkNest "DialGarden$House" 28 "DialGarden$Sky" "east" "I" "DialGarden") (by decide +kernel))) (fun _ h9 => h9) rfl dX2_hidesFrom_37 ?_
  refine lv_i2l (v := (S.1 1 13).toInt64) hx hb dX2_hidesFrom_40 rfl ?_
  refine lv_lload hx hb dX2_hidesFrom_41 (lv_at hl 2 rfl) ?_
  refine lv_lmul hx hb dX2_hidesFrom_43 ?_
  refine lv_aload_n hx hb dX2_hidesFrom_44 rfl (lv_at hl 7 rfl) ?_
  refine va_getN (D := eD E) (cl := vwCl) (tys := eT E) (ci := 8) (C := RX8) (T := TX8) (N := 16) (v := .int (S.1 1 14)) hx hb hts hinX8 hown hE.1 hW.1 12 rfl rfl 14 (by decide) (va_Nw.use rfl (hE.2.2.1 (.fieldLinkNest "DialGarden$House" 33 "DialGarden$Sky" "north" "I" "DialGarden") (by decide +kernel))) (fun _ h9 => h9) rfl dX2_hidesFrom_45 ?_
  refine lv_i2l (v := (S.1 1 14).toInt64) hx hb dX2_hidesFrom_48 rfl ?_
  refine lv_lload hx hb dX2_hidesFrom_49 (lv_at hl 3 rfl) ?_
  refine lv_lmul hx hb dX2_hidesFrom_51 ?_
  refine lv_lsub hx hb dX2_hidesFrom_52 ?_
  refine lv_topl (fun x53 ex53 => ?_)
  refine lv_lstore (lv' := [(12, .long (x53)), (10, .long (x34)), (8, .long (x25)), (6, .long (x16)), (4, .long (x7)), (0, .ref (a0)), (1, .int (p1)), (2, .int (p2)), (3, .ref (eC E 1))]) hx hb dX2_hidesFrom_53 hl (by decide) rfl (fun ls hl => ?_)
  refine lv_aload_n hx hb dX2_hidesFrom_55 rfl (lv_at hl 8 rfl) ?_
  refine va_getN (D := eD E) (cl := vwCl) (tys := eT E) (ci := 8) (C := RX8) (T := TX8) (N := 16) (v := .int (S.1 1 13)) hx hb hts hinX8 hown hE.1 hW.1 12 rfl rfl 13 (by decide) (va_Nw.use rfl (hE.2.2.1 (.fieldLinkNest "DialGarden$House" 28 "DialGarden$Sky" "east" "I" "DialGarden") (by decide +kernel))) (fun _ h9 => h9) rfl dX2_hidesFrom_56 ?_
  refine lv_i2l (v := (S.1 1 13).toInt64) hx hb dX2_hidesFrom_59 rfl ?_
  refine lv_lload hx hb dX2_hidesFrom_60 (lv_at hl 1 rfl) ?_
  refine lv_lmul hx hb dX2_hidesFrom_62 ?_
  refine lv_aload_n hx hb dX2_hidesFrom_63 rfl (lv_at hl 8 rfl) ?_
  refine va_getN (D := eD E) (cl := vwCl) (tys := eT E) (ci := 8) (C := RX8) (T := TX8) (N := 16) (v := .int (S.1 1 14)) hx hb hts hinX8 hown hE.1 hW.1 12 rfl rfl 14 (by decide) (va_Nw.use rfl (hE.2.2.1 (.fieldLinkNest "DialGarden$House" 33 "DialGarden$Sky" "north" "I" "DialGarden") (by decide +kernel))) (fun _ h9 => h9) rfl dX2_hidesFrom_64 ?_
  refine lv_i2l (v := (S.1 1 14).toInt64) hx hb dX2_hidesFrom_67 rfl ?_
  refine lv_lload hx hb dX2_hidesFrom_68 (lv_at hl 2 rfl) ?_
  refine lv_lmul hx hb dX2_hidesFrom_70 ?_
  refine lv_lsub hx hb dX2_hidesFrom_71 ?_
  refine lv_topl (fun x72 ex72 => ?_)
  refine lv_lstore (lv' := [(14, .long (x72)), (12, .long (x53)), (10, .long (x34)), (8, .long (x25)), (6, .long (x16)), (4, .long (x7)), (0, .ref (a0)), (1, .int (p1)), (2, .int (p2)), (3, .ref (eC E 1))]) hx hb dX2_hidesFrom_72 hl (by decide) rfl (fun ls hl => ?_)
  refine lv_lload hx hb dX2_hidesFrom_74 (lv_at hl 1 rfl) ?_
  refine lv_lconst (v := 0) hx hb dX2_hidesFrom_76 (by decide) ?_
  refine k_lle (tgt := 88) hx hb dX2_hidesFrom_77 dX2_hidesFrom_78 (by decide) (fun c77 => ?_) (fun c77 => ?_)
  · refine lv_lload hx hb dX2_hidesFrom_88 (lv_at hl 1 rfl) ?_
    refine lv_lconst (v := 0) hx hb dX2_hidesFrom_90 (by decide) ?_
    refine k_lge (tgt := 104) hx hb dX2_hidesFrom_91 dX2_hidesFrom_92 (by decide) (fun c91 => ?_) (fun c91 => ?_)
    · exact J104 _ _ _ _ _ _ _ (by subst ex72; subst ex53; subst ex34; subst ex25; subst ex16; subst ex7; first | (simp only [q_X2_hidesFrom, if_pos c77, if_pos c91]; done) | contradiction) (lv_sub hl [6, 9, 5, 4, 3, 2, 1, 0] rfl)
    · refine lv_lload hx hb dX2_hidesFrom_95 (lv_at hl 0 rfl) ?_
      refine lv_lconst (v := 0) hx hb dX2_hidesFrom_97 (by decide) ?_
      refine k_lge (tgt := 104) hx hb dX2_hidesFrom_98 dX2_hidesFrom_99 (by decide) (fun c98 => ?_) (fun c98 => ?_)
      · exact J104 _ _ _ _ _ _ _ (by subst ex72; subst ex53; subst ex34; subst ex25; subst ex16; subst ex7; first | (simp only [q_X2_hidesFrom, if_pos c77, if_neg c91, if_pos c98]; done) | contradiction) (lv_sub hl [6, 9, 5, 4, 3, 2, 1, 0] rfl)
      · refine lv_iconst (v := 0) hx hb dX2_hidesFrom_102 (by decide) ?_
        exact W.zret (v := 0) hx hb hr rfl (fun t ht _ => ⟨0, rfl, by subst ex72; subst ex53; subst ex34; subst ex25; subst ex16; subst ex7; first | (simp only [q_X2_hidesFrom, if_pos c77, if_neg c91, if_neg c98]; done) | contradiction, ht⟩) (fun _ h => nomatch h) dX2_hidesFrom_103
  · refine lv_lload hx hb dX2_hidesFrom_81 (lv_at hl 0 rfl) ?_
    refine lv_lconst (v := 0) hx hb dX2_hidesFrom_83 (by decide) ?_
    refine k_lgt (tgt := 102) hx hb dX2_hidesFrom_84 dX2_hidesFrom_85 (by decide) (fun c84 => ?_) (fun c84 => ?_)
    · refine lv_iconst (v := 0) hx hb dX2_hidesFrom_102 (by decide) ?_
      exact W.zret (v := 0) hx hb hr rfl (fun t ht _ => ⟨0, rfl, by subst ex72; subst ex53; subst ex34; subst ex25; subst ex16; subst ex7; first | (simp only [q_X2_hidesFrom, if_neg c77, if_pos c84]; done) | contradiction, ht⟩) (fun _ h => nomatch h) dX2_hidesFrom_103
    · refine lv_lload hx hb dX2_hidesFrom_88 (lv_at hl 1 rfl) ?_
      refine lv_lconst (v := 0) hx hb dX2_hidesFrom_90 (by decide) ?_
      refine k_lge (tgt := 104) hx hb dX2_hidesFrom_91 dX2_hidesFrom_92 (by decide) (fun c91 => ?_) (fun c91 => ?_)
      · exact J104 _ _ _ _ _ _ _ (by subst ex72; subst ex53; subst ex34; subst ex25; subst ex16; subst ex7; first | (simp only [q_X2_hidesFrom, if_neg c77, if_neg c84, if_pos c91]; done) | contradiction) (lv_sub hl [6, 9, 5, 4, 3, 2, 1, 0] rfl)
      · refine lv_lload hx hb dX2_hidesFrom_95 (lv_at hl 0 rfl) ?_
        refine lv_lconst (v := 0) hx hb dX2_hidesFrom_97 (by decide) ?_
        refine k_lge (tgt := 104) hx hb dX2_hidesFrom_98 dX2_hidesFrom_99 (by decide) (fun c98 => ?_) (fun c98 => ?_)
        · exact J104 _ _ _ _ _ _ _ (by subst ex72; subst ex53; subst ex34; subst ex25; subst ex16; subst ex7; first | (simp only [q_X2_hidesFrom, if_neg c77, if_neg c84, if_neg c91, if_pos c98]; done) | contradiction) (lv_sub hl [6, 9, 5, 4, 3, 2, 1, 0] rfl)
        · refine lv_iconst (v := 0) hx hb dX2_hidesFrom_102 (by decide) ?_
          exact W.zret (v := 0) hx hb hr rfl (fun t ht _ => ⟨0, rfl, by subst ex72; subst ex53; subst ex34; subst ex25; subst ex16; subst ex7; first | (simp only [q_X2_hidesFrom, if_neg c77, if_neg c84, if_neg c91, if_neg c98]; done) | contradiction, ht⟩) (fun _ h => nomatch h) dX2_hidesFrom_103
