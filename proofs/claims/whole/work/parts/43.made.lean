def q_X1_init (S : gSc) (a0 : Nat) (p1 : Int32) (p2 : Int32) (p3 : Int32) (p4 : Int32) (p5 : Int32) (p6 : Int32) (p7 : Int32) : gSc := sD (sD (sD (sD (sD (sD (sD S a0 0 p1) a0 1 p2) a0 2 p3) a0 3 p4) a0 4 p5) a0 5 p6) a0 6 p7
set_option maxHeartbeats 4000000 in
set_option maxRecDepth 100000 in
theorem c_X1_init (l : Launch) (E : gEE) (M : gSm) (S : gSc) (a0 : Nat) (p1 : Int32) (p2 : Int32) (p3 : Int32) (p4 : Int32) (p5 : Int32) (p6 : Int32) (p7 : Int32) (hLt : a0 ∈ S.2.2.1) (hkt : S.2.2.2.1 a0 = 1) : Met l yX1_init wsX1_init ({ frames := 2, cells := 0, slots := 0, locals := 32 }) (va_Pc [.ref (a0), .int (p1), .int (p2), .int (p3), .int (p4), .int (p5), .int (p6), .int (p7)] (gP E M S)) (va_Qv (fun u : gSc => u = q_X1_init S a0 p1 p2 p3 p4 p5 p6 p7) (fun u t => gW E M u t.heap) (eA E)) 0 0 (eA E) := by
  refine Met.ofW (cc := cX1_init) (maxL := 8) (ret := none) (by decide) rfl ?_
  intro p e s m args below meth c s₁ B hml hv
  obtain ⟨rfl, hE, hW⟩ := hv
  have hx := B.exec
  have hb := B.bytes
  have hr := B.returns
  have hts := atoms_spec (ws := wsX1_init) B.pre
  have hown : s.vm.findClass RX1 = some m.cls := findClass_of_methodNamed B.named
  have hlocks := B.notSynchronized
  have hin2 : meth.name = "<init>" := (name_of_methodNamed B.named B.method).1
  have hinX1 : ∀ w ∈ wsX10, w ∈ wsX1_init := by decide +kernel
  have hS : va_S (eA E) s.heap s.heap [] := va_S.rf
  have hl := lv_entry ([.ref (a0), .int (p1), .int (p2), .int (p3), .int (p4), .int (p5), .int (p6), .int (p7)]) (n := 8) (Nat.le_of_ble_eq_true rfl)
  rw [lg_entry_eq]
  generalize (lg_sl ([.ref (a0), .int (p1), .int (p2), .int (p3), .int (p4), .int (p5), .int (p6), .int (p7)]) ++ List.replicate (8 - (lg_sl ([.ref (a0), .int (p1), .int (p2), .int (p3), .int (p4), .int (p5), .int (p6), .int (p7)])).length) Slot.unset).toArray = ls at hl ⊢
  have hl : lv_has ls 8 [(0, .ref (a0)), (1, .int (p1)), (2, .int (p2)), (3, .int (p3)), (4, .int (p4)), (5, .int (p5)), (6, .int (p6)), (7, .int (p7))] := hl
  have hS : ∃ (H : Heap) (locs : List Loc), H = s.heap ∧ locs = [] ∧ gW E M S H ∧ va_S (eA E) s.heap H locs := ⟨_, _, rfl, rfl, hW, hS⟩
  clear hW
  obtain ⟨H, locs, eH, el, hW, hS⟩ := hS
  rw [← eH, ← el]
  clear eH el
  refine lv_aload_n hx hb dX1_init_0 rfl (lv_at hl 0 rfl) ?_
  refine k_Sv (va_runIN (As := []) (rest := []) ⟨hx, hb, hml, hown, hts⟩ (c_X9_init l a0) ⟨va_cnB 0 hts gX1_init_X9_init_n3 rfl rfl rfl (hE.2.2.1 (.methodLinkNest "DialGarden$Dial" 3 ⟨"DialGarden$Thing", "<init>", "()V"⟩ "DialGarden") (by decide +kernel)) (hts (.initialized RX9) (by decide +kernel)) (by decide +kernel) ⟨Nat.le_of_ble_eq_true rfl, Nat.le_of_ble_eq_true rfl⟩, rfl, hts (.instanceMethod yX9_init) (by decide +kernel)⟩ gP0 rfl rfl hl.1 rfl (lv_room (Nat.le_of_ble_eq_true rfl)) dX1_init_1 ⟨Nat.le_of_ble_eq_true rfl, Nat.le_of_ble_eq_true rfl⟩) (fun _ => ?_)
  refine lv_aload_n hx hb dX1_init_4 rfl (lv_at hl 0 rfl) ?_
  refine lv_iload_n hx hb dX1_init_5 rfl (lv_at hl 1 rfl) ?_
  obtain ⟨k6, hk6⟩ := wJ_d E M (S := S) hLt hkt
  refine va_putF (D := eD E) (cl := vwCl) (tys := eT E) (A := eA E) (ci := 1) (C := RX1) (T := TX1) (N := 7) (v := .int (p1)) (ty := .int) hx hb hts hinX1 tyX1 tyX1_ok nmX1 hown hE.1 hW.1 hW.2 hS k6 hk6 rfl 0 (by decide) (hts (.fieldLink RX1 9 "DialGarden$Dial" "kind" "I") (by decide +kernel)) (fun _ h9 => h9) rfl hin2 rfl (by decide +kernel) rfl rfl (Nat.le_of_ble_eq_true rfl) dX1_init_6 (fun H locs hP hD hS => ?_)
  have hW : gW E M (sD S a0 0 p1) H := gW.of (wJ_sDd E M S 0 p1 hW.2 hLt hkt hk6) hP hD
  refine lv_aload_n hx hb dX1_init_9 rfl (lv_at hl 0 rfl) ?_
  refine lv_iload_n hx hb dX1_init_10 rfl (lv_at hl 2 rfl) ?_
  obtain ⟨k11, hk11⟩ := wJ_d E M (S := sD S a0 0 p1) hLt hkt
  refine va_putF (D := eD E) (cl := vwCl) (tys := eT E) (A := eA E) (ci := 1) (C := RX1) (T := TX1) (N := 7) (v := .int (p2)) (ty := .int) hx hb hts hinX1 tyX1 tyX1_ok nmX1 hown hE.1 hW.1 hW.2 hS k11 hk11 rfl 1 (by decide) (hts (.fieldLink RX1 15 "DialGarden$Dial" "x" "I") (by decide +kernel)) (fun _ h9 => h9) rfl hin2 rfl (by decide +kernel) rfl rfl (Nat.le_of_ble_eq_true rfl) dX1_init_11 (fun H locs hP hD hS => ?_)
  have hW : gW E M (sD (sD S a0 0 p1) a0 1 p2) H := gW.of (wJ_sDd E M (sD S a0 0 p1) 1 p2 hW.2 hLt hkt hk11) hP hD
  refine lv_aload_n hx hb dX1_init_14 rfl (lv_at hl 0 rfl) ?_
  refine lv_iload_n hx hb dX1_init_15 rfl (lv_at hl 3 rfl) ?_
  obtain ⟨k16, hk16⟩ := wJ_d E M (S := sD (sD S a0 0 p1) a0 1 p2) hLt hkt
  refine va_putF (D := eD E) (cl := vwCl) (tys := eT E) (A := eA E) (ci := 1) (C := RX1) (T := TX1) (N := 7) (v := .int (p3)) (ty := .int) hx hb hts hinX1 tyX1 tyX1_ok nmX1 hown hE.1 hW.1 hW.2 hS k16 hk16 rfl 2 (by decide) (hts (.fieldLink RX1 18 "DialGarden$Dial" "y" "I") (by decide +kernel)) (fun _ h9 => h9) rfl hin2 rfl (by decide +kernel) rfl rfl (Nat.le_of_ble_eq_true rfl) dX1_init_16 (fun H locs hP hD hS => ?_)
  have hW : gW E M (sD (sD (sD S a0 0 p1) a0 1 p2) a0 2 p3) H := gW.of (wJ_sDd E M (sD (sD S a0 0 p1) a0 1 p2) 2 p3 hW.2 hLt hkt hk16) hP hD
  refine lv_aload_n hx hb dX1_init_19 rfl (lv_at hl 0 rfl) ?_
  refine lv_iload hx hb dX1_init_20 (lv_at hl 4 rfl) ?_
  obtain ⟨k22, hk22⟩ := wJ_d E M (S := sD (sD (sD S a0 0 p1) a0 1 p2) a0 2 p3) hLt hkt
  refine va_putF (D := eD E) (cl := vwCl) (tys := eT E) (A := eA E) (ci := 1) (C := RX1) (T := TX1) (N := 7) (v := .int (p4)) (ty := .int) hx hb hts hinX1 tyX1 tyX1_ok nmX1 hown hE.1 hW.1 hW.2 hS k22 hk22 rfl 3 (by decide) (hts (.fieldLink RX1 21 "DialGarden$Dial" "rod" "I") (by decide +kernel)) (fun _ h9 => h9) rfl hin2 rfl (by decide +kernel) rfl rfl (Nat.le_of_ble_eq_true rfl) dX1_init_22 (fun H locs hP hD hS => ?_)
  have hW : gW E M (sD (sD (sD (sD S a0 0 p1) a0 1 p2) a0 2 p3) a0 3 p4) H := gW.of (wJ_sDd E M (sD (sD (sD S a0 0 p1) a0 1 p2) a0 2 p3) 3 p4 hW.2 hLt hkt hk22) hP hD
  refine lv_aload_n hx hb dX1_init_25 rfl (lv_at hl 0 rfl) ?_
  refine lv_iload hx hb dX1_init_26 (lv_at hl 5 rfl) ?_
  obtain ⟨k28, hk28⟩ := wJ_d E M (S := sD (sD (sD (sD S a0 0 p1) a0 1 p2) a0 2 p3) a0 3 p4) hLt hkt
  refine va_putF (D := eD E) (cl := vwCl) (tys := eT E) (A := eA E) (ci := 1) (C := RX1) (T := TX1) (N := 7) (v := .int (p5)) (ty := .int) hx hb hts hinX1 tyX1 tyX1_ok nmX1 hown hE.1 hW.1 hW.2 hS k28 hk28 rfl 4 (by decide) (hts (.fieldLink RX1 24 "DialGarden$Dial" "facing" "I") (by decide +kernel)) (fun _ h9 => h9) rfl hin2 rfl (by decide +kernel) rfl rfl (Nat.le_of_ble_eq_true rfl) dX1_init_28 (fun H locs hP hD hS => ?_)
  have hW : gW E M (sD (sD (sD (sD (sD S a0 0 p1) a0 1 p2) a0 2 p3) a0 3 p4) a0 4 p5) H := gW.of (wJ_sDd E M (sD (sD (sD (sD S a0 0 p1) a0 1 p2) a0 2 p3) a0 3 p4) 4 p5 hW.2 hLt hkt hk28) hP hD
  refine lv_aload_n hx hb dX1_init_31 rfl (lv_at hl 0 rfl) ?_
  refine lv_iload hx hb dX1_init_32 (lv_at hl 6 rfl) ?_
  obtain ⟨k34, hk34⟩ := wJ_d E M (S := sD (sD (sD (sD (sD S a0 0 p1) a0 1 p2) a0 2 p3) a0 3 p4) a0 4 p5) hLt hkt
  refine va_putF (D := eD E) (cl := vwCl) (tys := eT E) (A := eA E) (ci := 1) (C := RX1) (T := TX1) (N := 7) (v := .int (p6)) (ty := .int) hx hb hts hinX1 tyX1 tyX1_ok nmX1 hown hE.1 hW.1 hW.2 hS k34 hk34 rfl 5 (by decide) (hts (.fieldLink RX1 27 "DialGarden$Dial" "slant" "I") (by decide +kernel)) (fun _ h9 => h9) rfl hin2 rfl (by decide +kernel) rfl rfl (Nat.le_of_ble_eq_true rfl) dX1_init_34 (fun H locs hP hD hS => ?_)
  have hW : gW E M (sD (sD (sD (sD (sD (sD S a0 0 p1) a0 1 p2) a0 2 p3) a0 3 p4) a0 4 p5) a0 5 p6) H := gW.of (wJ_sDd E M (sD (sD (sD (sD (sD S a0 0 p1) a0 1 p2) a0 2 p3) a0 3 p4) a0 4 p5) 5 p6 hW.2 hLt hkt hk34) hP hD
  refine lv_aload_n hx hb dX1_init_37 rfl (lv_at hl 0 rfl) ?_
  refine lv_iload hx hb dX1_init_38 (lv_at hl 7 rfl) ?_
  obtain ⟨k40, hk40⟩ := wJ_d E M (S := sD (sD (sD (sD (sD (sD S a0 0 p1) a0 1 p2) a0 2 p3) a0 3 p4) a0 4 p5) a0 5 p6) hLt hkt
  refine va_putF (D := eD E) (cl := vwCl) (tys := eT E) (A := eA E) (ci := 1) (C := RX1) (T := TX1) (N := 7) (v := .int (p7)) (ty := .int) hx hb hts hinX1 tyX1 tyX1_ok nmX1 hown hE.1 hW.1 hW.2 hS k40 hk40 rfl 6 (by decide) (hts (.fieldLink RX1 30 "DialGarden$Dial" "hours" "I") (by decide +kernel)) (fun _ h9 => h9) rfl hin2 rfl (by decide +kernel) rfl rfl (Nat.le_of_ble_eq_true rfl) dX1_init_40 (fun H locs hP hD hS => ?_)
  have hW : gW E M (sD (sD (sD (sD (sD (sD (sD S a0 0 p1) a0 1 p2) a0 2 p3) a0 3 p4) a0 4 p5) a0 5 p6) a0 6 p7) H := gW.of (wJ_sDd E M (sD (sD (sD (sD (sD (sD S a0 0 p1) a0 1 p2) a0 2 p3) a0 3 p4) a0 4 p5) a0 5 p6) 6 p7 hW.2 hLt hkt hk40) hP hD
  exact W.vret hx hb hr (fun t ht _ => ⟨⟨sD (sD (sD (sD (sD (sD (sD S a0 0 p1) a0 1 p2) a0 2 p3) a0 3 p4) a0 4 p5) a0 5 p6) a0 6 p7, rfl, by first | (simp only [q_X1_init]; done) | contradiction, by dsimp only; rw [ht]; exact hW⟩, hS.F ht⟩) hS.2.2 dX1_init_43

def q_X2_init (S : gSc) (a0 : Nat) (p1 : Int32) (p2 : Int32) (p3 : Int32) (p4 : Int32) (p5 : Int32) : gSc := sD (sD (sD (sD (sD S a0 0 p1) a0 1 p2) a0 2 p3) a0 3 p4) a0 4 p5
set_option maxHeartbeats 4000000 in
set_option maxRecDepth 100000 in
theorem c_X2_init (l : Launch) (E : gEE) (M : gSm) (S : gSc) (a0 : Nat) (p1 : Int32) (p2 : Int32) (p3 : Int32) (p4 : Int32) (p5 : Int32) (hLt : a0 ∈ S.2.2.1) (hkt : ¬ S.2.2.2.1 a0 = 1) : Met l yX2_init wsX2_init ({ frames := 2, cells := 0, slots := 0, locals := 32 }) (va_Pc [.ref (a0), .int (p1), .int (p2), .int (p3), .int (p4), .int (p5)] (gP E M S)) (va_Qv (fun u : gSc => u = q_X2_init S a0 p1 p2 p3 p4 p5) (fun u t => gW E M u t.heap) (eA E)) 0 0 (eA E) := by
  refine Met.ofW (cc := cX2_init) (maxL := 6) (ret := none) (by decide) rfl ?_
  intro p e s m args below meth c s₁ B hml hv
  obtain ⟨rfl, hE, hW⟩ := hv
  have hx := B.exec
  have hb := B.bytes
  have hr := B.returns
  have hts := atoms_spec (ws := wsX2_init) B.pre
  have hown : s.vm.findClass RX2 = some m.cls := findClass_of_methodNamed B.named
  have hlocks := B.notSynchronized
  have hin2 : meth.name = "<init>" := (name_of_methodNamed B.named B.method).1
  have hinX2 : ∀ w ∈ wsX20, w ∈ wsX2_init := by decide +kernel
  have hS : va_S (eA E) s.heap s.heap [] := va_S.rf
  have hl := lv_entry ([.ref (a0), .int (p1), .int (p2), .int (p3), .int (p4), .int (p5)]) (n := 6) (Nat.le_of_ble_eq_true rfl)
  rw [lg_entry_eq]
  generalize (lg_sl ([.ref (a0), .int (p1), .int (p2), .int (p3), .int (p4), .int (p5)]) ++ List.replicate (6 - (lg_sl ([.ref (a0), .int (p1), .int (p2), .int (p3), .int (p4), .int (p5)])).length) Slot.unset).toArray = ls at hl ⊢
  have hl : lv_has ls 6 [(0, .ref (a0)), (1, .int (p1)), (2, .int (p2)), (3, .int (p3)), (4, .int (p4)), (5, .int (p5))] := hl
  have hS : ∃ (H : Heap) (locs : List Loc), H = s.heap ∧ locs = [] ∧ gW E M S H ∧ va_S (eA E) s.heap H locs := ⟨_, _, rfl, rfl, hW, hS⟩
  clear hW
  obtain ⟨H, locs, eH, el, hW, hS⟩ := hS
  rw [← eH, ← el]
  clear eH el
  refine lv_aload_n hx hb dX2_init_0 rfl (lv_at hl 0 rfl) ?_
  refine k_Sv (va_runIN (As := []) (rest := []) ⟨hx, hb, hml, hown, hts⟩ (c_X9_init l a0) ⟨va_cnB 0 hts gX2_init_X9_init_n3 rfl rfl rfl (hE.2.2.1 (.methodLinkNest "DialGarden$House" 3 ⟨"DialGarden$Thing", "<init>", "()V"⟩ "DialGarden") (by decide +kernel)) (hts (.initialized RX9) (by decide +kernel)) (by decide +kernel) ⟨Nat.le_of_ble_eq_true rfl, Nat.le_of_ble_eq_true rfl⟩, rfl, hts (.instanceMethod yX9_init) (by decide +kernel)⟩ gP0 rfl rfl hl.1 rfl (lv_room (Nat.le_of_ble_eq_true rfl)) dX2_init_1 ⟨Nat.le_of_ble_eq_true rfl, Nat.le_of_ble_eq_true rfl⟩) (fun _ => ?_)
  refine lv_aload_n hx hb dX2_init_4 rfl (lv_at hl 0 rfl) ?_
  refine lv_iload_n hx hb dX2_init_5 rfl (lv_at hl 1 rfl) ?_
  obtain ⟨k6, hk6⟩ := wJ_h E M (S := S) hLt hkt
  refine va_putF (D := eD E) (cl := vwCl) (tys := eT E) (A := eA E) (ci := 2) (C := RX2) (T := TX2) (N := 5) (v := .int (p1)) (ty := .int) hx hb hts hinX2 tyX2 tyX2_ok nmX2 hown hE.1 hW.1 hW.2 hS k6 hk6 rfl 0 (by decide) (hts (.fieldLink RX2 9 "DialGarden$House" "x1" "I") (by decide +kernel)) (fun _ h9 => h9) rfl hin2 rfl (by decide +kernel) rfl rfl (Nat.le_of_ble_eq_true rfl) dX2_init_6 (fun H locs hP hD hS => ?_)
  have hW : gW E M (sD S a0 0 p1) H := gW.of (wJ_sDh E M S 0 p1 hW.2 hLt hkt hk6) hP hD
  refine lv_aload_n hx hb dX2_init_9 rfl (lv_at hl 0 rfl) ?_
  refine lv_iload_n hx hb dX2_init_10 rfl (lv_at hl 2 rfl) ?_
  obtain ⟨k11, hk11⟩ := wJ_h E M (S := sD S a0 0 p1) hLt hkt
  refine va_putF (D := eD E) (cl := vwCl) (tys := eT E) (A := eA E) (ci := 2) (C := RX2) (T := TX2) (N := 5) (v := .int (p2)) (ty := .int) hx hb hts hinX2 tyX2 tyX2_ok nmX2 hown hE.1 hW.1 hW.2 hS k11 hk11 rfl 1 (by decide) (hts (.fieldLink RX2 15 "DialGarden$House" "y1" "I") (by decide +kernel)) (fun _ h9 => h9) rfl hin2 rfl (by decide +kernel) rfl rfl (Nat.le_of_ble_eq_true rfl) dX2_init_11 (fun H locs hP hD hS => ?_)
  have hW : gW E M (sD (sD S a0 0 p1) a0 1 p2) H := gW.of (wJ_sDh E M (sD S a0 0 p1) 1 p2 hW.2 hLt hkt hk11) hP hD
  refine lv_aload_n hx hb dX2_init_14 rfl (lv_at hl 0 rfl) ?_
  refine lv_iload_n hx hb dX2_init_15 rfl (lv_at hl 3 rfl) ?_
  obtain ⟨k16, hk16⟩ := wJ_h E M (S := sD (sD S a0 0 p1) a0 1 p2) hLt hkt
  refine va_putF (D := eD E) (cl := vwCl) (tys := eT E) (A := eA E) (ci := 2) (C := RX2) (T := TX2) (N := 5) (v := .int (p3)) (ty := .int) hx hb hts hinX2 tyX2 tyX2_ok nmX2 hown hE.1 hW.1 hW.2 hS k16 hk16 rfl 2 (by decide) (hts (.fieldLink RX2 18 "DialGarden$House" "x2" "I") (by decide +kernel)) (fun _ h9 => h9) rfl hin2 rfl (by decide +kernel) rfl rfl (Nat.le_of_ble_eq_true rfl) dX2_init_16 (fun H locs hP hD hS => ?_)
  have hW : gW E M (sD (sD (sD S a0 0 p1) a0 1 p2) a0 2 p3) H := gW.of (wJ_sDh E M (sD (sD S a0 0 p1) a0 1 p2) 2 p3 hW.2 hLt hkt hk16) hP hD
  refine lv_aload_n hx hb dX2_init_19 rfl (lv_at hl 0 rfl) ?_
  refine lv_iload hx hb dX2_init_20 (lv_at hl 4 rfl) ?_
  obtain ⟨k22, hk22⟩ := wJ_h E M (S := sD (sD (sD S a0 0 p1) a0 1 p2) a0 2 p3) hLt hkt
  refine va_putF (D := eD E) (cl := vwCl) (tys := eT E) (A := eA E) (ci := 2) (C := RX2) (T := TX2) (N := 5) (v := .int (p4)) (ty := .int) hx hb hts hinX2 tyX2 tyX2_ok nmX2 hown hE.1 hW.1 hW.2 hS k22 hk22 rfl 3 (by decide) (hts (.fieldLink RX2 21 "DialGarden$House" "y2" "I") (by decide +kernel)) (fun _ h9 => h9) rfl hin2 rfl (by decide +kernel) rfl rfl (Nat.le_of_ble_eq_true rfl) dX2_init_22 (fun H locs hP hD hS => ?_)
  have hW : gW E M (sD (sD (sD (sD S a0 0 p1) a0 1 p2) a0 2 p3) a0 3 p4) H := gW.of (wJ_sDh E M (sD (sD (sD S a0 0 p1) a0 1 p2) a0 2 p3) 3 p4 hW.2 hLt hkt hk22) hP hD
  refine lv_aload_n hx hb dX2_init_25 rfl (lv_at hl 0 rfl) ?_
  refine lv_iload hx hb dX2_init_26 (lv_at hl 5 rfl) ?_
  obtain ⟨k28, hk28⟩ := wJ_h E M (S := sD (sD (sD (sD S a0 0 p1) a0 1 p2) a0 2 p3) a0 3 p4) hLt hkt
  refine va_putF (D := eD E) (cl := vwCl) (tys := eT E) (A := eA E) (ci := 2) (C := RX2) (T := TX2) (N := 5) (v := .int (p5)) (ty := .int) hx hb hts hinX2 tyX2 tyX2_ok nmX2 hown hE.1 hW.1 hW.2 hS k28 hk28 rfl 4 (by decide) (hts (.fieldLink RX2 24 "DialGarden$House" "height" "I") (by decide +kernel)) (fun _ h9 => h9) rfl hin2 rfl (by decide +kernel) rfl rfl (Nat.le_of_ble_eq_true rfl) dX2_init_28 (fun H locs hP hD hS => ?_)
  have hW : gW E M (sD (sD (sD (sD (sD S a0 0 p1) a0 1 p2) a0 2 p3) a0 3 p4) a0 4 p5) H := gW.of (wJ_sDh E M (sD (sD (sD (sD S a0 0 p1) a0 1 p2) a0 2 p3) a0 3 p4) 4 p5 hW.2 hLt hkt hk28) hP hD
  exact W.vret hx hb hr (fun t ht _ => ⟨⟨sD (sD (sD (sD (sD S a0 0 p1) a0 1 p2) a0 2 p3) a0 3 p4) a0 4 p5, rfl, by first | (simp only [q_X2_init]; done) | contradiction, by dsimp only; rw [ht]; exact hW⟩, hS.F ht⟩) hS.2.2 dX2_init_31

def q_X1_withSpot (S : gSc) (a0 : Nat) (p1 : Int32) (p2 : Int32) (q : Nat) : Option Nat × gSc := (let S0 := sN S q 1 (fun _ => 0); (let S26 := q_X1_init S0 q (S0.2.2.2.2 a0 0) p1 p2 (S0.2.2.2.2 a0 3) (S0.2.2.2.2 a0 4) (S0.2.2.2.2 a0 5) (S0.2.2.2.2 a0 6); (some q, S26)))
set_option maxHeartbeats 4000000 in
set_option maxRecDepth 100000 in
theorem c_X1_withSpot (l : Launch) (E : gEE) (M : gSm) (S : gSc) (a0 : Nat) (p1 : Int32) (p2 : Int32) (hLt : a0 ∈ S.2.2.1) (hkt : S.2.2.2.1 a0 = 1) : Met l yX1_withSpot wsX1_withSpot ({ frames := 3, cells := 1, slots := 7, locals := 59 }) (va_Pc [.ref (a0), .int (p1), .int (p2)] (gP E M S)) (va_Qq (fun r (u : gSc) => ∃ q : Nat, q ∉ S.2.2.1 ∧ (r, u) = q_X1_withSpot S a0 p1 p2 q) (fun u t => gW E M u t.heap) (eA E)) 1 7 (eA E) := by
  refine Met.ofW (cc := cX1_withSpot) (maxL := 3) (ret := (some (.object "DialGarden$Dial"))) (by decide) rfl ?_
  intro p e s m args below meth c s₁ B hml hv
  obtain ⟨rfl, hE, hW⟩ := hv
  have hx := B.exec
  have hb := B.bytes
  have hr := B.returns
  have hts := atoms_spec (ws := wsX1_withSpot) B.pre
  have hown : s.vm.findClass RX1 = some m.cls := findClass_of_methodNamed B.named
  have hlocks := B.notSynchronized
  obtain ⟨q0, hf0⟩ := fr_ex S.2.2.1
  have hinX1 : ∀ w ∈ wsX10, w ∈ wsX1_withSpot := by decide +kernel
  have hS : va_S (eA E) s.heap s.heap [] := va_S.rf
  have hl := lv_entry ([.ref (a0), .int (p1), .int (p2)]) (n := 3) (Nat.le_of_ble_eq_true rfl)
  rw [lg_entry_eq]
  generalize (lg_sl ([.ref (a0), .int (p1), .int (p2)]) ++ List.replicate (3 - (lg_sl ([.ref (a0), .int (p1), .int (p2)])).length) Slot.unset).toArray = ls at hl ⊢
  have hl : lv_has ls 3 [(0, .ref (a0)), (1, .int (p1)), (2, .int (p2))] := hl
  have hS : ∃ (H : Heap) (locs : List Loc), H = s.heap ∧ locs = [] ∧ gW E M S H ∧ va_S (eA E) s.heap H locs := ⟨_, _, rfl, rfl, hW, hS⟩
  clear hW
  obtain ⟨H, locs, eH, el, hW, hS⟩ := hS
  rw [← eH, ← el]
  clear eH el
  refine va_new (D := eD E) (cl := vwCl) (tys := eT E) (A := eA E) (ci := 1) (fs := [.int 0, .int 0, .int 0, .int 0, .int 0, .int 0, .int 0]) (C := RX1) (T := TX1) (N := 7) hx hb hts hinX1 tyX1 tyX1_ok hown (hts (.classLink RX1 10 RX1) (by decide +kernel)) (hts (.instantiable RX1 7) (by decide +kernel)) (hts (.initialized RX1) (by decide +kernel)) hE.1 hW.1 hW.2 hS hE.2.1 rfl (fun j hj => by rcases (show j = 0 ∨ j = 1 ∨ j = 2 ∨ j = 3 ∨ j = 4 ∨ j = 5 ∨ j = 6 by omega) with rfl | rfl | rfl | rfl | rfl | rfl | rfl <;> rfl) (Nat.le_of_ble_eq_true rfl) (Nat.le_of_ble_eq_true rfl) dX1_withSpot_0 (fun q0 H hP hD hS => ?_)
  have hf0 : q0 ∉ S.2.2.1 := wJ_fresh hD
  obtain ⟨S0, eS0⟩ : ∃ z : gSc, z = sN S q0 1 (fun _ => 0) := ⟨_, rfl⟩
  have hW : gW E M S0 H := by rw [eS0]; exact gW.of (wJ_newD E M S hf0) hP hD
  have hL0 : q0 ∈ S0.2.2.1 := by rw [eS0]; exact List.mem_append_right _ (List.mem_singleton.mpr rfl)
  have hK0 : S0.2.2.2.1 q0 = 1 := by rw [eS0]; simp [sN, va_up]
  refine W.widen (k := 1) (n := 7) (by decide) (by decide) ?_
  refine lv_dup hx hb dX1_withSpot_3 rfl ?_
  refine lv_aload_n hx hb dX1_withSpot_4 rfl (lv_at hl 0 rfl) ?_
  obtain ⟨k5, hk5⟩ := wJ_d E M (S := S0) (by rw [eS0]; exact List.mem_append_left _ hLt) (by rw [eS0]; exact (va_up_ne _ _ (in_ne hLt hf0)).trans hkt)
  refine va_get (D := eD E) (cl := vwCl) (tys := eT E) (ci := 1) (C := RX1) (T := TX1) (N := 7) (v := .int (S0.2.2.2.2 a0 0)) hx hb hts hinX1 hown hE.1 hW.1 k5 hk5 rfl 0 (by decide) (hts (.fieldLink RX1 9 "DialGarden$Dial" "kind" "I") (by decide +kernel)) (fun _ h9 => h9) rfl dX1_withSpot_5 ?_
  refine lv_iload_n hx hb dX1_withSpot_8 rfl (lv_at hl 1 rfl) ?_
  refine lv_iload_n hx hb dX1_withSpot_9 rfl (lv_at hl 2 rfl) ?_
  refine lv_aload_n hx hb dX1_withSpot_10 rfl (lv_at hl 0 rfl) ?_
  obtain ⟨k11, hk11⟩ := wJ_d E M (S := S0) (by rw [eS0]; exact List.mem_append_left _ hLt) (by rw [eS0]; exact (va_up_ne _ _ (in_ne hLt hf0)).trans hkt)
  refine va_get (D := eD E) (cl := vwCl) (tys := eT E) (ci := 1) (C := RX1) (T := TX1) (N := 7) (v := .int (S0.2.2.2.2 a0 3)) hx hb hts hinX1 hown hE.1 hW.1 k11 hk11 rfl 3 (by decide) (hts (.fieldLink RX1 21 "DialGarden$Dial" "rod" "I") (by decide +kernel)) (fun _ h9 => h9) rfl dX1_withSpot_11 ?_
  refine lv_aload_n hx hb dX1_withSpot_14 rfl (lv_at hl 0 rfl) ?_
  obtain ⟨k15, hk15⟩ := wJ_d E M (S := S0) (by rw [eS0]; exact List.mem_append_left _ hLt) (by rw [eS0]; exact (va_up_ne _ _ (in_ne hLt hf0)).trans hkt)
  refine va_get (D := eD E) (cl := vwCl) (tys := eT E) (ci := 1) (C := RX1) (T := TX1) (N := 7) (v := .int (S0.2.2.2.2 a0 4)) hx hb hts hinX1 hown hE.1 hW.1 k15 hk15 rfl 4 (by decide) (hts (.fieldLink RX1 24 "DialGarden$Dial" "facing" "I") (by decide +kernel)) (fun _ h9 => h9) rfl dX1_withSpot_15 ?_
  refine lv_aload_n hx hb dX1_withSpot_18 rfl (lv_at hl 0 rfl) ?_
  obtain ⟨k19, hk19⟩ := wJ_d E M (S := S0) (by rw [eS0]; exact List.mem_append_left _ hLt) (by rw [eS0]; exact (va_up_ne _ _ (in_ne hLt hf0)).trans hkt)
  refine va_get (D := eD E) (cl := vwCl) (tys := eT E) (ci := 1) (C := RX1) (T := TX1) (N := 7) (v := .int (S0.2.2.2.2 a0 5)) hx hb hts hinX1 hown hE.1 hW.1 k19 hk19 rfl 5 (by decide) (hts (.fieldLink RX1 27 "DialGarden$Dial" "slant" "I") (by decide +kernel)) (fun _ h9 => h9) rfl dX1_withSpot_19 ?_
  refine lv_aload_n hx hb dX1_withSpot_22 rfl (lv_at hl 0 rfl) ?_
  obtain ⟨k23, hk23⟩ := wJ_d E M (S := S0) (by rw [eS0]; exact List.mem_append_left _ hLt) (by rw [eS0]; exact (va_up_ne _ _ (in_ne hLt hf0)).trans hkt)
  refine va_get (D := eD E) (cl := vwCl) (tys := eT E) (ci := 1) (C := RX1) (T := TX1) (N := 7) (v := .int (S0.2.2.2.2 a0 6)) hx hb hts hinX1 hown hE.1 hW.1 k23 hk23 rfl 6 (by decide) (hts (.fieldLink RX1 30 "DialGarden$Dial" "hours" "I") (by decide +kernel)) (fun _ h9 => h9) rfl dX1_withSpot_23 ?_
  obtain ⟨k26, hk26⟩ := wJ_d E M (S := S0) hL0 hK0
  refine va_callv (va_runI (As := [.int (S0.2.2.2.2 a0 0), .int (p1), .int (p2), .int (S0.2.2.2.2 a0 3), .int (S0.2.2.2.2 a0 4), .int (S0.2.2.2.2 a0 5), .int (S0.2.2.2.2 a0 6)]) (rest := [.ref (q0)]) ⟨hx, hb, hml, hown, hts⟩ (c_X1_init l E M S0 q0 (S0.2.2.2.2 a0 0) p1 p2 (S0.2.2.2.2 a0 3) (S0.2.2.2.2 a0 4) (S0.2.2.2.2 a0 5) (S0.2.2.2.2 a0 6) hL0 hK0) (cwI 7 hts gX1_withSpot_X1_init rfl rfl rfl (hts (.initialized RX1) (by decide +kernel)) (hts (.methodLink RX1 33 yX1_init) (by decide +kernel)) (hts (.instanceMethod yX1_init) (by decide +kernel)) rfl (by decide +kernel) ⟨Nat.le_of_ble_eq_true rfl, Nat.le_of_ble_eq_true rfl⟩) (gP.S hE hS hW) rfl rfl hl.1 rfl (lv_room (Nat.le_of_ble_eq_true rfl)) dX1_withSpot_26 ⟨Nat.le_of_ble_eq_true rfl, Nat.le_of_ble_eq_true rfl⟩) hS (fun _ _ h => h) (fun _ h => h) (fun S26 t H locs ht hvm hw hB hz1 hk1 hS => ?_)
  have eS26 : S26 = q_X1_init S0 q0 (S0.2.2.2.2 a0 0) p1 p2 (S0.2.2.2.2 a0 3) (S0.2.2.2.2 a0 4) (S0.2.2.2.2 a0 5) (S0.2.2.2.2 a0 6) := hw
  clear hw
  have hW : gW E M S26 H := by rw [← ht]; exact hB
  exact W.aret (v := .ref (q0)) hx hb hr (Or.inl ⟨_, rfl⟩) (Or.inr ⟨_, rfl⟩) (fun t ht _ => ⟨⟨some q0, S26, rfl, ⟨q0, hf0, by subst eS26; subst eS0; first | (simp only [q_X1_withSpot]; done) | contradiction⟩, by dsimp only; rw [ht]; exact hW⟩, hS.F ht⟩) hS.2.2 dX1_withSpot_29

def q_X1_withFacing (S : gSc) (a0 : Nat) (p1 : Int32) (q : Nat) : Option Nat × gSc := (let S0 := sN S q 1 (fun _ => 0); (let S29 := q_X1_init S0 q (S0.2.2.2.2 a0 0) (S0.2.2.2.2 a0 1) (S0.2.2.2.2 a0 2) (S0.2.2.2.2 a0 3) p1 (S0.2.2.2.2 a0 5) (S0.2.2.2.2 a0 6); (some q, S29)))
set_option maxHeartbeats 4000000 in
set_option maxRecDepth 100000 in
theorem c_X1_withFacing (l : Launch) (E : gEE) (M : gSm) (S : gSc) (a0 : Nat) (p1 : Int32) (hLt : a0 ∈ S.2.2.1) (hkt : S.2.2.2.1 a0 = 1) : Met l yX1_withFacing wsX1_withFacing ({ frames := 3, cells := 1, slots := 7, locals := 59 }) (va_Pc [.ref (a0), .int (p1)] (gP E M S)) (va_Qq (fun r (u : gSc) => ∃ q : Nat, q ∉ S.2.2.1 ∧ (r, u) = q_X1_withFacing S a0 p1 q) (fun u t => gW E M u t.heap) (eA E)) 1 7 (eA E) := by
  refine Met.ofW (cc := cX1_withFacing) (maxL := 2) (ret := (some (.object "DialGarden$Dial"))) (by decide) rfl ?_
  intro p e s m args below meth c s₁ B hml hv
  obtain ⟨rfl, hE, hW⟩ := hv
  have hx := B.exec
  have hb := B.bytes
  have hr := B.returns
  have hts := atoms_spec (ws := wsX1_withFacing) B.pre
  have hown : s.vm.findClass RX1 = some m.cls := findClass_of_methodNamed B.named
  have hlocks := B.notSynchronized
  obtain ⟨q0, hf0⟩ := fr_ex S.2.2.1
  have hinX1 : ∀ w ∈ wsX10, w ∈ wsX1_withFacing := by decide +kernel
  have hS : va_S (eA E) s.heap s.heap [] := va_S.rf
  have hl := lv_entry ([.ref (a0), .int (p1)]) (n := 2) (Nat.le_of_ble_eq_true rfl)
  rw [lg_entry_eq]
  generalize (lg_sl ([.ref (a0), .int (p1)]) ++ List.replicate (2 - (lg_sl ([.ref (a0), .int (p1)])).length) Slot.unset).toArray = ls at hl ⊢
  have hl : lv_has ls 2 [(0, .ref (a0)), (1, .int (p1))] := hl
  have hS : ∃ (H : Heap) (locs : List Loc), H = s.heap ∧ locs = [] ∧ gW E M S H ∧ va_S (eA E) s.heap H locs := ⟨_, _, rfl, rfl, hW, hS⟩
  clear hW
  obtain ⟨H, locs, eH, el, hW, hS⟩ := hS
  rw [← eH, ← el]
  clear eH el
  refine va_new (D := eD E) (cl := vwCl) (tys := eT E) (A := eA E) (ci := 1) (fs := [.int 0, .int 0, .int 0, .int 0, .int 0, .int 0, .int 0]) (C := RX1) (T := TX1) (N := 7) hx hb hts hinX1 tyX1 tyX1_ok hown (hts (.classLink RX1 10 RX1) (by decide +kernel)) (hts (.instantiable RX1 7) (by decide +kernel)) (hts (.initialized RX1) (by decide +kernel)) hE.1 hW.1 hW.2 hS hE.2.1 rfl (fun j hj => by rcases (show j = 0 ∨ j = 1 ∨ j = 2 ∨ j = 3 ∨ j = 4 ∨ j = 5 ∨ j = 6 by omega) with rfl | rfl | rfl | rfl | rfl | rfl | rfl <;> rfl) (Nat.le_of_ble_eq_true rfl) (Nat.le_of_ble_eq_true rfl) dX1_withFacing_0 (fun q0 H hP hD hS => ?_)
  have hf0 : q0 ∉ S.2.2.1 := wJ_fresh hD
  obtain ⟨S0, eS0⟩ : ∃ z : gSc, z = sN S q0 1 (fun _ => 0) := ⟨_, rfl⟩
  have hW : gW E M S0 H := by rw [eS0]; exact gW.of (wJ_newD E M S hf0) hP hD
  have hL0 : q0 ∈ S0.2.2.1 := by rw [eS0]; exact List.mem_append_right _ (List.mem_singleton.mpr rfl)
  have hK0 : S0.2.2.2.1 q0 = 1 := by rw [eS0]; simp [sN, va_up]
  refine W.widen (k := 1) (n := 7) (by decide) (by decide) ?_
  refine lv_dup hx hb dX1_withFacing_3 rfl ?_
  refine lv_aload_n hx hb dX1_withFacing_4 rfl (lv_at hl 0 rfl) ?_
  obtain ⟨k5, hk5⟩ := wJ_d E M (S := S0) (by rw [eS0]; exact List.mem_append_left _ hLt) (by rw [eS0]; exact (va_up_ne _ _ (in_ne hLt hf0)).trans hkt)
  refine va_get (D := eD E) (cl := vwCl) (tys := eT E) (ci := 1) (C := RX1) (T := TX1) (N := 7) (v := .int (S0.2.2.2.2 a0 0)) hx hb hts hinX1 hown hE.1 hW.1 k5 hk5 rfl 0 (by decide) (hts (.fieldLink RX1 9 "DialGarden$Dial" "kind" "I") (by decide +kernel)) (fun _ h9 => h9) rfl dX1_withFacing_5 ?_
  refine lv_aload_n hx hb dX1_withFacing_8 rfl (lv_at hl 0 rfl) ?_
  obtain ⟨k9, hk9⟩ := wJ_d E M (S := S0) (by rw [eS0]; exact List.mem_append_left _ hLt) (by rw [eS0]; exact (va_up_ne _ _ (in_ne hLt hf0)).trans hkt)
  refine va_get (D := eD E) (cl := vwCl) (tys := eT E) (ci := 1) (C := RX1) (T := TX1) (N := 7) (v := .int (S0.2.2.2.2 a0 1)) hx hb hts hinX1 hown hE.1 hW.1 k9 hk9 rfl 1 (by decide) (hts (.fieldLink RX1 15 "DialGarden$Dial" "x" "I") (by decide +kernel)) (fun _ h9 => h9) rfl dX1_withFacing_9 ?_
  refine lv_aload_n hx hb dX1_withFacing_12 rfl (lv_at hl 0 rfl) ?_
  obtain ⟨k13, hk13⟩ := wJ_d E M (S := S0) (by rw [eS0]; exact List.mem_append_left _ hLt) (by rw [eS0]; exact (va_up_ne _ _ (in_ne hLt hf0)).trans hkt)
  refine va_get (D := eD E) (cl := vwCl) (tys := eT E) (ci := 1) (C := RX1) (T := TX1) (N := 7) (v := .int (S0.2.2.2.2 a0 2)) hx hb hts hinX1 hown hE.1 hW.1 k13 hk13 rfl 2 (by decide) (hts (.fieldLink RX1 18 "DialGarden$Dial" "y" "I") (by decide +kernel)) (fun _ h9 => h9) rfl dX1_withFacing_13 ?_
  refine lv_aload_n hx hb dX1_withFacing_16 rfl (lv_at hl 0 rfl) ?_
  obtain ⟨k17, hk17⟩ := wJ_d E M (S := S0) (by rw [eS0]; exact List.mem_append_left _ hLt) (by rw [eS0]; exact (va_up_ne _ _ (in_ne hLt hf0)).trans hkt)
  refine va_get (D := eD E) (cl := vwCl) (tys := eT E) (ci := 1) (C := RX1) (T := TX1) (N := 7) (v := .int (S0.2.2.2.2 a0 3)) hx hb hts hinX1 hown hE.1 hW.1 k17 hk17 rfl 3 (by decide) (hts (.fieldLink RX1 21 "DialGarden$Dial" "rod" "I") (by decide +kernel)) (fun _ h9 => h9) rfl dX1_withFacing_17 ?_
  refine lv_iload_n hx hb dX1_withFacing_20 rfl (lv_at hl 1 rfl) ?_
  refine lv_aload_n hx hb dX1_withFacing_21 rfl (lv_at hl 0 rfl) ?_
  obtain ⟨k22, hk22⟩ := wJ_d E M (S := S0) (by rw [eS0]; exact List.mem_append_left _ hLt) (by rw [eS0]; exact (va_up_ne _ _ (in_ne hLt hf0)).trans hkt)
  refine va_get (D := eD E) (cl := vwCl) (tys := eT E) (ci := 1) (C := RX1) (T := TX1) (N := 7) (v := .int (S0.2.2.2.2 a0 5)) hx hb hts hinX1 hown hE.1 hW.1 k22 hk22 rfl 5 (by decide) (hts (.fieldLink RX1 27 "DialGarden$Dial" "slant" "I") (by decide +kernel)) (fun _ h9 => h9) rfl dX1_withFacing_22 ?_
  refine lv_aload_n hx hb dX1_withFacing_25 rfl (lv_at hl 0 rfl) ?_
  obtain ⟨k26, hk26⟩ := wJ_d E M (S := S0) (by rw [eS0]; exact List.mem_append_left _ hLt) (by rw [eS0]; exact (va_up_ne _ _ (in_ne hLt hf0)).trans hkt)
  refine va_get (D := eD E) (cl := vwCl) (tys := eT E) (ci := 1) (C := RX1) (T := TX1) (N := 7) (v := .int (S0.2.2.2.2 a0 6)) hx hb hts hinX1 hown hE.1 hW.1 k26 hk26 rfl 6 (by decide) (hts (.fieldLink RX1 30 "DialGarden$Dial" "hours" "I") (by decide +kernel)) (fun _ h9 => h9) rfl dX1_withFacing_26 ?_
  obtain ⟨k29, hk29⟩ := wJ_d E M (S := S0) hL0 hK0
  refine va_callv (va_runI (As := [.int (S0.2.2.2.2 a0 0), .int (S0.2.2.2.2 a0 1), .int (S0.2.2.2.2 a0 2), .int (S0.2.2.2.2 a0 3), .int (p1), .int (S0.2.2.2.2 a0 5), .int (S0.2.2.2.2 a0 6)]) (rest := [.ref (q0)]) ⟨hx, hb, hml, hown, hts⟩ (c_X1_init l E M S0 q0 (S0.2.2.2.2 a0 0) (S0.2.2.2.2 a0 1) (S0.2.2.2.2 a0 2) (S0.2.2.2.2 a0 3) p1 (S0.2.2.2.2 a0 5) (S0.2.2.2.2 a0 6) hL0 hK0) (cwI 7 hts gX1_withFacing_X1_init rfl rfl rfl (hts (.initialized RX1) (by decide +kernel)) (hts (.methodLink RX1 33 yX1_init) (by decide +kernel)) (hts (.instanceMethod yX1_init) (by decide +kernel)) rfl (by decide +kernel) ⟨Nat.le_of_ble_eq_true rfl, Nat.le_of_ble_eq_true rfl⟩) (gP.S hE hS hW) rfl rfl hl.1 rfl (lv_room (Nat.le_of_ble_eq_true rfl)) dX1_withFacing_29 ⟨Nat.le_of_ble_eq_true rfl, Nat.le_of_ble_eq_true rfl⟩) hS (fun _ _ h => h) (fun _ h => h) (fun S29 t H locs ht hvm hw hB hz1 hk1 hS => ?_)
  have eS29 : S29 = q_X1_init S0 q0 (S0.2.2.2.2 a0 0) (S0.2.2.2.2 a0 1) (S0.2.2.2.2 a0 2) (S0.2.2.2.2 a0 3) p1 (S0.2.2.2.2 a0 5) (S0.2.2.2.2 a0 6) := hw
  clear hw
  have hW : gW E M S29 H := by rw [← ht]; exact hB
  exact W.aret (v := .ref (q0)) hx hb hr (Or.inl ⟨_, rfl⟩) (Or.inr ⟨_, rfl⟩) (fun t ht _ => ⟨⟨some q0, S29, rfl, ⟨q0, hf0, by subst eS29; subst eS0; first | (simp only [q_X1_withFacing]; done) | contradiction⟩, by dsimp only; rw [ht]; exact hW⟩, hS.F ht⟩) hS.2.2 dX1_withFacing_32

def q_X1_withSlant (S : gSc) (a0 : Nat) (p1 : Int32) (q : Nat) : Option Nat × gSc := (let S0 := sN S q 1 (fun _ => 0); (let S29 := q_X1_init S0 q (S0.2.2.2.2 a0 0) (S0.2.2.2.2 a0 1) (S0.2.2.2.2 a0 2) (S0.2.2.2.2 a0 3) (S0.2.2.2.2 a0 4) p1 (S0.2.2.2.2 a0 6); (some q, S29)))
set_option maxHeartbeats 4000000 in
set_option maxRecDepth 100000 in
theorem c_X1_withSlant (l : Launch) (E : gEE) (M : gSm) (S : gSc) (a0 : Nat) (p1 : Int32) (hLt : a0 ∈ S.2.2.1) (hkt : S.2.2.2.1 a0 = 1) : Met l yX1_withSlant wsX1_withSlant ({ frames := 3, cells := 1, slots := 7, locals := 59 }) (va_Pc [.ref (a0), .int (p1)] (gP E M S)) (va_Qq (fun r (u : gSc) => ∃ q : Nat, q ∉ S.2.2.1 ∧ (r, u) = q_X1_withSlant S a0 p1 q) (fun u t => gW E M u t.heap) (eA E)) 1 7 (eA E) := by
  refine Met.ofW (cc := cX1_withSlant) (maxL := 2) (ret := (some (.object "DialGarden$Dial"))) (by decide) rfl ?_
  intro p e s m args below meth c s₁ B hml hv
  obtain ⟨rfl, hE, hW⟩ := hv
  have hx := B.exec
  have hb := B.bytes
  have hr := B.returns
  have hts := atoms_spec (ws := wsX1_withSlant) B.pre
  have hown : s.vm.findClass RX1 = some m.cls := findClass_of_methodNamed B.named
  have hlocks := B.notSynchronized
  obtain ⟨q0, hf0⟩ := fr_ex S.2.2.1
  have hinX1 : ∀ w ∈ wsX10, w ∈ wsX1_withSlant := by decide +kernel
  have hS : va_S (eA E) s.heap s.heap [] := va_S.rf
  have hl := lv_entry ([.ref (a0), .int (p1)]) (n := 2) (Nat.le_of_ble_eq_true rfl)
  rw [lg_entry_eq]
  generalize (lg_sl ([.ref (a0), .int (p1)]) ++ List.replicate (2 - (lg_sl ([.ref (a0), .int (p1)])).length) Slot.unset).toArray = ls at hl ⊢
  have hl : lv_has ls 2 [(0, .ref (a0)), (1, .int (p1))] := hl
  have hS : ∃ (H : Heap) (locs : List Loc), H = s.heap ∧ locs = [] ∧ gW E M S H ∧ va_S (eA E) s.heap H locs := ⟨_, _, rfl, rfl, hW, hS⟩
  clear hW
  obtain ⟨H, locs, eH, el, hW, hS⟩ := hS
  rw [← eH, ← el]
  clear eH el
  refine va_new (D := eD E) (cl := vwCl) (tys := eT E) (A := eA E) (ci := 1) (fs := [.int 0, .int 0, .int 0, .int 0, .int 0, .int 0, .int 0]) (C := RX1) (T := TX1) (N := 7) hx hb hts hinX1 tyX1 tyX1_ok hown (hts (.classLink RX1 10 RX1) (by decide +kernel)) (hts (.instantiable RX1 7) (by decide +kernel)) (hts (.initialized RX1) (by decide +kernel)) hE.1 hW.1 hW.2 hS hE.2.1 rfl (fun j hj => by rcases (show j = 0 ∨ j = 1 ∨ j = 2 ∨ j = 3 ∨ j = 4 ∨ j = 5 ∨ j = 6 by omega) with rfl | rfl | rfl | rfl | rfl | rfl | rfl <;> rfl) (Nat.le_of_ble_eq_true rfl) (Nat.le_of_ble_eq_true rfl) dX1_withSlant_0 (fun q0 H hP hD hS => ?_)
  have hf0 : q0 ∉ S.2.2.1 := wJ_fresh hD
  obtain ⟨S0, eS0⟩ : ∃ z : gSc, z = sN S q0 1 (fun _ => 0) := ⟨_, rfl⟩
  have hW : gW E M S0 H := by rw [eS0]; exact gW.of (wJ_newD E M S hf0) hP hD
  have hL0 : q0 ∈ S0.2.2.1 := by rw [eS0]; exact List.mem_append_right _ (List.mem_singleton.mpr rfl)
  have hK0 : S0.2.2.2.1 q0 = 1 := by rw [eS0]; simp [sN, va_up]
  refine W.widen (k := 1) (n := 7) (by decide) (by decide) ?_
  refine lv_dup hx hb dX1_withSlant_3 rfl ?_
  refine lv_aload_n hx hb dX1_withSlant_4 rfl (lv_at hl 0 rfl) ?_
  obtain ⟨k5, hk5⟩ := wJ_d E M (S := S0) (by rw [eS0]; exact List.mem_append_left _ hLt) (by rw [eS0]; exact (va_up_ne _ _ (in_ne hLt hf0)).trans hkt)
  refine va_get (D := eD E) (cl := vwCl) (tys := eT E) (ci := 1) (C := RX1) (T := TX1) (N := 7) (v := .int (S0.2.2.2.2 a0 0)) hx hb hts hinX1 hown hE.1 hW.1 k5 hk5 rfl 0 (by decide) (hts (.fieldLink RX1 9 "DialGarden$Dial" "kind" "I") (by decide +kernel)) (fun _ h9 => h9) rfl dX1_withSlant_5 ?_
  refine lv_aload_n hx hb dX1_withSlant_8 rfl (lv_at hl 0 rfl) ?_
  obtain ⟨k9, hk9⟩ := wJ_d E M (S := S0) (by rw [eS0]; exact List.mem_append_left _ hLt) (by rw [eS0]; exact (va_up_ne _ _ (in_ne hLt hf0)).trans hkt)
  refine va_get (D := eD E) (cl := vwCl) (tys := eT E) (ci := 1) (C := RX1) (T := TX1) (N := 7) (v := .int (S0.2.2.2.2 a0 1)) hx hb hts hinX1 hown hE.1 hW.1 k9 hk9 rfl 1 (by decide) (hts (.fieldLink RX1 15 "DialGarden$Dial" "x" "I") (by decide +kernel)) (fun _ h9 => h9) rfl dX1_withSlant_9 ?_
  refine lv_aload_n hx hb dX1_withSlant_12 rfl (lv_at hl 0 rfl) ?_
  obtain ⟨k13, hk13⟩ := wJ_d E M (S := S0) (by rw [eS0]; exact List.mem_append_left _ hLt) (by rw [eS0]; exact (va_up_ne _ _ (in_ne hLt hf0)).trans hkt)
  refine va_get (D := eD E) (cl := vwCl) (tys := eT E) (ci := 1) (C := RX1) (T := TX1) (N := 7) (v := .int (S0.2.2.2.2 a0 2)) hx hb hts hinX1 hown hE.1 hW.1 k13 hk13 rfl 2 (by decide) (hts (.fieldLink RX1 18 "DialGarden$Dial" "y" "I") (by decide +kernel)) (fun _ h9 => h9) rfl dX1_withSlant_13 ?_
  refine lv_aload_n hx hb dX1_withSlant_16 rfl (lv_at hl 0 rfl) ?_
  obtain ⟨k17, hk17⟩ := wJ_d E M (S := S0) (by rw [eS0]; exact List.mem_append_left _ hLt) (by rw [eS0]; exact (va_up_ne _ _ (in_ne hLt hf0)).trans hkt)
  refine va_get (D := eD E) (cl := vwCl) (tys := eT E) (ci := 1) (C := RX1) (T := TX1) (N := 7) (v := .int (S0.2.2.2.2 a0 3)) hx hb hts hinX1 hown hE.1 hW.1 k17 hk17 rfl 3 (by decide) (hts (.fieldLink RX1 21 "DialGarden$Dial" "rod" "I") (by decide +kernel)) (fun _ h9 => h9) rfl dX1_withSlant_17 ?_
  refine lv_aload_n hx hb dX1_withSlant_20 rfl (lv_at hl 0 rfl) ?_
  obtain ⟨k21, hk21⟩ := wJ_d E M (S := S0) (by rw [eS0]; exact List.mem_append_left _ hLt) (by rw [eS0]; exact (va_up_ne _ _ (in_ne hLt hf0)).trans hkt)
  refine va_get (D := eD E) (cl := vwCl) (tys := eT E) (ci := 1) (C := RX1) (T := TX1) (N := 7) (v := .int (S0.2.2.2.2 a0 4)) hx hb hts hinX1 hown hE.1 hW.1 k21 hk21 rfl 4 (by decide) (hts (.fieldLink RX1 24 "DialGarden$Dial" "facing" "I") (by decide +kernel)) (fun _ h9 => h9) rfl dX1_withSlant_21 ?_
  refine lv_iload_n hx hb dX1_withSlant_24 rfl (lv_at hl 1 rfl) ?_
  refine lv_aload_n hx hb dX1_withSlant_25 rfl (lv_at hl 0 rfl) ?_
  obtain ⟨k26, hk26⟩ := wJ_d E M (S := S0) (by rw [eS0]; exact List.mem_append_left _ hLt) (by rw [eS0]; exact (va_up_ne _ _ (in_ne hLt hf0)).trans hkt)
  refine va_get (D := eD E) (cl := vwCl) (tys := eT E) (ci := 1) (C := RX1) (T := TX1) (N := 7) (v := .int (S0.2.2.2.2 a0 6)) hx hb hts hinX1 hown hE.1 hW.1 k26 hk26 rfl 6 (by decide) (hts (.fieldLink RX1 30 "DialGarden$Dial" "hours" "I") (by decide +kernel)) (fun _ h9 => h9) rfl dX1_withSlant_26 ?_
  obtain ⟨k29, hk29⟩ := wJ_d E M (S := S0) hL0 hK0
  refine va_callv (va_runI (As := [.int (S0.2.2.2.2 a0 0), .int (S0.2.2.2.2 a0 1), .int (S0.2.2.2.2 a0 2), .int (S0.2.2.2.2 a0 3), .int (S0.2.2.2.2 a0 4), .int (p1), .int (S0.2.2.2.2 a0 6)]) (rest := [.ref (q0)]) ⟨hx, hb, hml, hown, hts⟩ (c_X1_init l E M S0 q0 (S0.2.2.2.2 a0 0) (S0.2.2.2.2 a0 1) (S0.2.2.2.2 a0 2) (S0.2.2.2.2 a0 3) (S0.2.2.2.2 a0 4) p1 (S0.2.2.2.2 a0 6) hL0 hK0) (cwI 7 hts gX1_withSlant_X1_init rfl rfl rfl (hts (.initialized RX1) (by decide +kernel)) (hts (.methodLink RX1 33 yX1_init) (by decide +kernel)) (hts (.instanceMethod yX1_init) (by decide +kernel)) rfl (by decide +kernel) ⟨Nat.le_of_ble_eq_true rfl, Nat.le_of_ble_eq_true rfl⟩) (gP.S hE hS hW) rfl rfl hl.1 rfl (lv_room (Nat.le_of_ble_eq_true rfl)) dX1_withSlant_29 ⟨Nat.le_of_ble_eq_true rfl, Nat.le_of_ble_eq_true rfl⟩) hS (fun _ _ h => h) (fun _ h => h) (fun S29 t H locs ht hvm hw hB hz1 hk1 hS => ?_)
  have eS29 : S29 = q_X1_init S0 q0 (S0.2.2.2.2 a0 0) (S0.2.2.2.2 a0 1) (S0.2.2.2.2 a0 2) (S0.2.2.2.2 a0 3) (S0.2.2.2.2 a0 4) p1 (S0.2.2.2.2 a0 6) := hw
  clear hw
  have hW : gW E M S29 H := by rw [← ht]; exact hB
  exact W.aret (v := .ref (q0)) hx hb hr (Or.inl ⟨_, rfl⟩) (Or.inr ⟨_, rfl⟩) (fun t ht _ => ⟨⟨some q0, S29, rfl, ⟨q0, hf0, by subst eS29; subst eS0; first | (simp only [q_X1_withSlant]; done) | contradiction⟩, by dsimp only; rw [ht]; exact hW⟩, hS.F ht⟩) hS.2.2 dX1_withSlant_32

def q_X1_withHour (S : gSc) (a0 : Nat) (p1 : Int32) (p2 : Int32) (q : Nat) : Option Nat × gSc := (let S0 := sN S q 1 (fun _ => 0); (let S42 := q_X1_init S0 q (S0.2.2.2.2 a0 0) (S0.2.2.2.2 a0 1) (S0.2.2.2.2 a0 2) (S0.2.2.2.2 a0 3) (S0.2.2.2.2 a0 4) (S0.2.2.2.2 a0 5) (((S0.2.2.2.2 a0 6) &&& ((1 <<< (p1 &&& 31)) ^^^ (-1))) ||| (p2 <<< (p1 &&& 31))); (some q, S42)))
set_option maxHeartbeats 4000000 in
set_option maxRecDepth 100000 in
theorem c_X1_withHour (l : Launch) (E : gEE) (M : gSm) (S : gSc) (a0 : Nat) (p1 : Int32) (p2 : Int32) (hLt : a0 ∈ S.2.2.1) (hkt : S.2.2.2.1 a0 = 1) : Met l yX1_withHour wsX1_withHour ({ frames := 3, cells := 1, slots := 7, locals := 59 }) (va_Pc [.ref (a0), .int (p1), .int (p2)] (gP E M S)) (va_Qq (fun r (u : gSc) => ∃ q : Nat, q ∉ S.2.2.1 ∧ (r, u) = q_X1_withHour S a0 p1 p2 q) (fun u t => gW E M u t.heap) (eA E)) 1 7 (eA E) := by
  refine Met.ofW (cc := cX1_withHour) (maxL := 3) (ret := (some (.object "DialGarden$Dial"))) (by decide) rfl ?_
  intro p e s m args below meth c s₁ B hml hv
  obtain ⟨rfl, hE, hW⟩ := hv
  have hx := B.exec
  have hb := B.bytes
  have hr := B.returns
  have hts := atoms_spec (ws := wsX1_withHour) B.pre
  have hown : s.vm.findClass RX1 = some m.cls := findClass_of_methodNamed B.named
  have hlocks := B.notSynchronized
  obtain ⟨q0, hf0⟩ := fr_ex S.2.2.1
  have hinX1 : ∀ w ∈ wsX10, w ∈ wsX1_withHour := by decide +kernel
  have hS : va_S (eA E) s.heap s.heap [] := va_S.rf
  have hl := lv_entry ([.ref (a0), .int (p1), .int (p2)]) (n := 3) (Nat.le_of_ble_eq_true rfl)
  rw [lg_entry_eq]
  generalize (lg_sl ([.ref (a0), .int (p1), .int (p2)]) ++ List.replicate (3 - (lg_sl ([.ref (a0), .int (p1), .int (p2)])).length) Slot.unset).toArray = ls at hl ⊢
  have hl : lv_has ls 3 [(0, .ref (a0)), (1, .int (p1)), (2, .int (p2))] := hl
  have hS : ∃ (H : Heap) (locs : List Loc), H = s.heap ∧ locs = [] ∧ gW E M S H ∧ va_S (eA E) s.heap H locs := ⟨_, _, rfl, rfl, hW, hS⟩
  clear hW
  obtain ⟨H, locs, eH, el, hW, hS⟩ := hS
  rw [← eH, ← el]
  clear eH el
  refine va_new (D := eD E) (cl := vwCl) (tys := eT E) (A := eA E) (ci := 1) (fs := [.int 0, .int 0, .int 0, .int 0, .int 0, .int 0, .int 0]) (C := RX1) (T := TX1) (N := 7) hx hb hts hinX1 tyX1 tyX1_ok hown (hts (.classLink RX1 10 RX1) (by decide +kernel)) (hts (.instantiable RX1 7) (by decide +kernel)) (hts (.initialized RX1) (by decide +kernel)) hE.1 hW.1 hW.2 hS hE.2.1 rfl (fun j hj => by rcases (show j = 0 ∨ j = 1 ∨ j = 2 ∨ j = 3 ∨ j = 4 ∨ j = 5 ∨ j = 6 by omega) with rfl | rfl | rfl | rfl | rfl | rfl | rfl <;> rfl) (Nat.le_of_ble_eq_true rfl) (Nat.le_of_ble_eq_true rfl) dX1_withHour_0 (fun q0 H hP hD hS => ?_)
  have hf0 : q0 ∉ S.2.2.1 := wJ_fresh hD
  obtain ⟨S0, eS0⟩ : ∃ z : gSc, z = sN S q0 1 (fun _ => 0) := ⟨_, rfl⟩
  have hW : gW E M S0 H := by rw [eS0]; exact gW.of (wJ_newD E M S hf0) hP hD
  have hL0 : q0 ∈ S0.2.2.1 := by rw [eS0]; exact List.mem_append_right _ (List.mem_singleton.mpr rfl)
  have hK0 : S0.2.2.2.1 q0 = 1 := by rw [eS0]; simp [sN, va_up]
  refine W.widen (k := 1) (n := 7) (by decide) (by decide) ?_
  refine lv_dup hx hb dX1_withHour_3 rfl ?_
  refine lv_aload_n hx hb dX1_withHour_4 rfl (lv_at hl 0 rfl) ?_
  obtain ⟨k5, hk5⟩ := wJ_d E M (S := S0) (by rw [eS0]; exact List.mem_append_left _ hLt) (by rw [eS0]; exact (va_up_ne _ _ (in_ne hLt hf0)).trans hkt)
  refine va_get (D := eD E) (cl := vwCl) (tys := eT E) (ci := 1) (C := RX1) (T := TX1) (N := 7) (v := .int (S0.2.2.2.2 a0 0)) hx hb hts hinX1 hown hE.1 hW.1 k5 hk5 rfl 0 (by decide) (hts (.fieldLink RX1 9 "DialGarden$Dial" "kind" "I") (by decide +kernel)) (fun _ h9 => h9) rfl dX1_withHour_5 ?_
  refine lv_aload_n hx hb dX1_withHour_8 rfl (lv_at hl 0 rfl) ?_
  obtain ⟨k9, hk9⟩ := wJ_d E M (S := S0) (by rw [eS0]; exact List.mem_append_left _ hLt) (by rw [eS0]; exact (va_up_ne _ _ (in_ne hLt hf0)).trans hkt)
  refine va_get (D := eD E) (cl := vwCl) (tys := eT E) (ci := 1) (C := RX1) (T := TX1) (N := 7) (v := .int (S0.2.2.2.2 a0 1)) hx hb hts hinX1 hown hE.1 hW.1 k9 hk9 rfl 1 (by decide) (hts (.fieldLink RX1 15 "DialGarden$Dial" "x" "I") (by decide +kernel)) (fun _ h9 => h9) rfl dX1_withHour_9 ?_
  refine lv_aload_n hx hb dX1_withHour_12 rfl (lv_at hl 0 rfl) ?_
  obtain ⟨k13, hk13⟩ := wJ_d E M (S := S0) (by rw [eS0]; exact List.mem_append_left _ hLt) (by rw [eS0]; exact (va_up_ne _ _ (in_ne hLt hf0)).trans hkt)
  refine va_get (D := eD E) (cl := vwCl) (tys := eT E) (ci := 1) (C := RX1) (T := TX1) (N := 7) (v := .int (S0.2.2.2.2 a0 2)) hx hb hts hinX1 hown hE.1 hW.1 k13 hk13 rfl 2 (by decide) (hts (.fieldLink RX1 18 "DialGarden$Dial" "y" "I") (by decide +kernel)) (fun _ h9 => h9) rfl dX1_withHour_13 ?_
  refine lv_aload_n hx hb dX1_withHour_16 rfl (lv_at hl 0 rfl) ?_
  obtain ⟨k17, hk17⟩ := wJ_d E M (S := S0) (by rw [eS0]; exact List.mem_append_left _ hLt) (by rw [eS0]; exact (va_up_ne _ _ (in_ne hLt hf0)).trans hkt)
  refine va_get (D := eD E) (cl := vwCl) (tys := eT E) (ci := 1) (C := RX1) (T := TX1) (N := 7) (v := .int (S0.2.2.2.2 a0 3)) hx hb hts hinX1 hown hE.1 hW.1 k17 hk17 rfl 3 (by decide) (hts (.fieldLink RX1 21 "DialGarden$Dial" "rod" "I") (by decide +kernel)) (fun _ h9 => h9) rfl dX1_withHour_17 ?_
  refine lv_aload_n hx hb dX1_withHour_20 rfl (lv_at hl 0 rfl) ?_
  obtain ⟨k21, hk21⟩ := wJ_d E M (S := S0) (by rw [eS0]; exact List.mem_append_left _ hLt) (by rw [eS0]; exact (va_up_ne _ _ (in_ne hLt hf0)).trans hkt)
  refine va_get (D := eD E) (cl := vwCl) (tys := eT E) (ci := 1) (C := RX1) (T := TX1) (N := 7) (v := .int (S0.2.2.2.2 a0 4)) hx hb hts hinX1 hown hE.1 hW.1 k21 hk21 rfl 4 (by decide) (hts (.fieldLink RX1 24 "DialGarden$Dial" "facing" "I") (by decide +kernel)) (fun _ h9 => h9) rfl dX1_withHour_21 ?_
  refine lv_aload_n hx hb dX1_withHour_24 rfl (lv_at hl 0 rfl) ?_
  obtain ⟨k25, hk25⟩ := wJ_d E M (S := S0) (by rw [eS0]; exact List.mem_append_left _ hLt) (by rw [eS0]; exact (va_up_ne _ _ (in_ne hLt hf0)).trans hkt)
  refine va_get (D := eD E) (cl := vwCl) (tys := eT E) (ci := 1) (C := RX1) (T := TX1) (N := 7) (v := .int (S0.2.2.2.2 a0 5)) hx hb hts hinX1 hown hE.1 hW.1 k25 hk25 rfl 5 (by decide) (hts (.fieldLink RX1 27 "DialGarden$Dial" "slant" "I") (by decide +kernel)) (fun _ h9 => h9) rfl dX1_withHour_25 ?_
  refine lv_aload_n hx hb dX1_withHour_28 rfl (lv_at hl 0 rfl) ?_
  obtain ⟨k29, hk29⟩ := wJ_d E M (S := S0) (by rw [eS0]; exact List.mem_append_left _ hLt) (by rw [eS0]; exact (va_up_ne _ _ (in_ne hLt hf0)).trans hkt)
  refine va_get (D := eD E) (cl := vwCl) (tys := eT E) (ci := 1) (C := RX1) (T := TX1) (N := 7) (v := .int (S0.2.2.2.2 a0 6)) hx hb hts hinX1 hown hE.1 hW.1 k29 hk29 rfl 6 (by decide) (hts (.fieldLink RX1 30 "DialGarden$Dial" "hours" "I") (by decide +kernel)) (fun _ h9 => h9) rfl dX1_withHour_29 ?_
  refine lv_iconst (v := 1) hx hb dX1_withHour_32 (by decide) ?_
  refine lv_iload_n hx hb dX1_withHour_33 rfl (lv_at hl 1 rfl) ?_
  refine lv_ishl hx hb dX1_withHour_34 ?_
  refine lv_iconst (v := (-1)) hx hb dX1_withHour_35 (by decide) ?_
  refine lv_ixor hx hb dX1_withHour_36 ?_
  refine lv_iand hx hb dX1_withHour_37 ?_
  refine lv_iload_n hx hb dX1_withHour_38 rfl (lv_at hl 2 rfl) ?_
  refine lv_iload_n hx hb dX1_withHour_39 rfl (lv_at hl 1 rfl) ?_
  refine lv_ishl hx hb dX1_withHour_40 ?_
  refine lv_ior hx hb dX1_withHour_41 ?_
  obtain ⟨k42, hk42⟩ := wJ_d E M (S := S0) hL0 hK0
  refine va_callv (va_runI (As := [.int (S0.2.2.2.2 a0 0), .int (S0.2.2.2.2 a0 1), .int (S0.2.2.2.2 a0 2), .int (S0.2.2.2.2 a0 3), .int (S0.2.2.2.2 a0 4), .int (S0.2.2.2.2 a0 5), .int (((S0.2.2.2.2 a0 6) &&& ((1 <<< (p1 &&& 31)) ^^^ (-1))) ||| (p2 <<< (p1 &&& 31)))]) (rest := [.ref (q0)]) ⟨hx, hb, hml, hown, hts⟩ (c_X1_init l E M S0 q0 (S0.2.2.2.2 a0 0) (S0.2.2.2.2 a0 1) (S0.2.2.2.2 a0 2) (S0.2.2.2.2 a0 3) (S0.2.2.2.2 a0 4) (S0.2.2.2.2 a0 5) (((S0.2.2.2.2 a0 6) &&& ((1 <<< (p1 &&& 31)) ^^^ (-1))) ||| (p2 <<< (p1 &&& 31))) hL0 hK0) (cwI 7 hts gX1_withHour_X1_init rfl rfl rfl (hts (.initialized RX1) (by decide +kernel)) (hts (.methodLink RX1 33 yX1_init) (by decide +kernel)) (hts (.instanceMethod yX1_init) (by decide +kernel)) rfl (by decide +kernel) ⟨Nat.le_of_ble_eq_true rfl, Nat.le_of_ble_eq_true rfl⟩) (gP.S hE hS hW) rfl rfl hl.1 rfl (lv_room (Nat.le_of_ble_eq_true rfl)) dX1_withHour_42 ⟨Nat.le_of_ble_eq_true rfl, Nat.le_of_ble_eq_true rfl⟩) hS (fun _ _ h => h) (fun _ h => h) (fun S42 t H locs ht hvm hw hB hz1 hk1 hS => ?_)
  have eS42 : S42 = q_X1_init S0 q0 (S0.2.2.2.2 a0 0) (S0.2.2.2.2 a0 1) (S0.2.2.2.2 a0 2) (S0.2.2.2.2 a0 3) (S0.2.2.2.2 a0 4) (S0.2.2.2.2 a0 5) (((S0.2.2.2.2 a0 6) &&& ((1 <<< (p1 &&& 31)) ^^^ (-1))) ||| (p2 <<< (p1 &&& 31))) := hw
  clear hw
  have hW : gW E M S42 H := by rw [← ht]; exact hB
  exact W.aret (v := .ref (q0)) hx hb hr (Or.inl ⟨_, rfl⟩) (Or.inr ⟨_, rfl⟩) (fun t ht _ => ⟨⟨some q0, S42, rfl, ⟨q0, hf0, by subst eS42; subst eS0; first | (simp only [q_X1_withHour]; done) | contradiction⟩, by dsimp only; rw [ht]; exact hW⟩, hS.F ht⟩) hS.2.2 dX1_withHour_45

def q_X10_dial (S : gSc) (p1 : Int32) (p2 : Int32) (p3 : Int32) (p4 : Int32) (p5 : Int32) (q : Nat) : Int32 × gSc := (let r1 := q_X10_isPlace p1; (if r1 = 0 then ((-2000000001), S) else (let r8 := q_X10_isKind p2; (if r8 = 0 then ((-2000000001), S) else (let r17 := q_X10_isSpot p3 p4; (if r17 = 0 then ((-2000000001), S) else (let r30 := q_X10_within (p5.toInt64) 1 1000; (if r30 = 0 then ((-2000000001), S) else (let S41 := sN S q 1 (fun _ => 0); (let S57 := q_X1_init S41 q p2 p3 p4 p5 0 8192 16777215; (let S60 := q_X10_put S57 p1 (some q); (0, S60))))))))))))
set_option maxHeartbeats 4000000 in
set_option maxRecDepth 100000 in
theorem c_X10_dial (l : Launch) (E : gEE) (M : gSm) (S : gSc) (p1 : Int32) (p2 : Int32) (p3 : Int32) (p4 : Int32) (p5 : Int32) (hT : okR S 3 40) : Met l yX10_dial wsX10_dial ({ frames := 3, cells := 1, slots := 7, locals := 66 }) (va_Pc [.ref (eC E 0), .int (p1), .int (p2), .int (p3), .int (p4), .int (p5)] (gP E M S)) (va_Qi (fun r (u : gSc) => ∃ q : Nat, q ∉ S.2.2.1 ∧ (r, u) = q_X10_dial S p1 p2 p3 p4 p5 q) (fun u t => gW E M u t.heap) (eA E)) 1 7 (eA E) := by
  refine Met.ofW (cc := cX10_dial) (maxL := 6) (ret := (some .int)) (by decide) rfl ?_
  intro p e s m args below meth c s₁ B hml hv
  obtain ⟨rfl, hE, hW⟩ := hv
  have hx := B.exec
  have hb := B.bytes
  have hr := B.returns
  have hts := atoms_spec (ws := wsX10_dial) B.pre
  have hown : s.vm.findClass RX10 = some m.cls := findClass_of_methodNamed B.named
  have hlocks := B.notSynchronized
  obtain ⟨q0, hf0⟩ := fr_ex S.2.2.1
  have hinX1 : ∀ w ∈ wsX10, w ∈ wsX10_dial := by decide +kernel
  have hS : va_S (eA E) s.heap s.heap [] := va_S.rf
  have hl := lv_entry ([.ref (eC E 0), .int (p1), .int (p2), .int (p3), .int (p4), .int (p5)]) (n := 6) (Nat.le_of_ble_eq_true rfl)
  rw [lg_entry_eq]
  generalize (lg_sl ([.ref (eC E 0), .int (p1), .int (p2), .int (p3), .int (p4), .int (p5)]) ++ List.replicate (6 - (lg_sl ([.ref (eC E 0), .int (p1), .int (p2), .int (p3), .int (p4), .int (p5)])).length) Slot.unset).toArray = ls at hl ⊢
  have hl : lv_has ls 6 [(0, .ref (eC E 0)), (1, .int (p1)), (2, .int (p2)), (3, .int (p3)), (4, .int (p4)), (5, .int (p5))] := hl
  have hS : ∃ (H : Heap) (locs : List Loc), H = s.heap ∧ locs = [] ∧ gW E M S H ∧ va_S (eA E) s.heap H locs := ⟨_, _, rfl, rfl, hW, hS⟩
  clear hW
  obtain ⟨H, locs, eH, el, hW, hS⟩ := hS
  rw [← eH, ← el]
  clear eH el
  refine lv_iload_n hx hb dX10_dial_0 rfl (lv_at hl 1 rfl) ?_
  refine k_Si (va_runS (As := [.int (p1)]) (rest := []) ⟨hx, hb, hml, hown, hts⟩ (c_X10_isPlace l p1) (va_cwS 1 hts gX10_dial_X10_isPlace rfl rfl rfl (by decide +kernel) ⟨Nat.le_of_ble_eq_true rfl, Nat.le_of_ble_eq_true rfl⟩) gP0 rfl rfl hl.1 rfl (lv_room (Nat.le_of_ble_eq_true rfl)) dX10_dial_1 ⟨Nat.le_of_ble_eq_true rfl, Nat.le_of_ble_eq_true rfl⟩) (fun r1 er1 => ?_)
  refine lv_if_eq (tgt := 36) hx hb dX10_dial_4 (by decide) (fun c4 => ?_) (fun c4 => ?_)
  · refine lv_ldc hx hb (v := (-2000000001)) hown (hts (.constant RX10 86 (-2000000001)) (by decide +kernel)) dX10_dial_36 ?_
    refine W.widen (k := 1) (n := 7) (by decide) (by decide) ?_
    exact W.iret (v := (-2000000001)) hx hb hr (fun t ht _ => ⟨⟨(-2000000001), S, rfl, ⟨q0, hf0, by subst er1; first | (simp only [q_X10_dial, if_pos c4]; done) | contradiction⟩, by dsimp only; rw [ht]; exact hW⟩, hS.F ht⟩) hS.2.2 dX10_dial_38
  · refine lv_iload_n hx hb dX10_dial_7 rfl (lv_at hl 2 rfl) ?_
    refine k_Si (va_runS (As := [.int (p2)]) (rest := []) ⟨hx, hb, hml, hown, hts⟩ (c_X10_isKind l p2) (va_cwS 1 hts gX10_dial_X10_isKind rfl rfl rfl (by decide +kernel) ⟨Nat.le_of_ble_eq_true rfl, Nat.le_of_ble_eq_true rfl⟩) gP0 rfl rfl hl.1 rfl (lv_room (Nat.le_of_ble_eq_true rfl)) dX10_dial_8 ⟨Nat.le_of_ble_eq_true rfl, Nat.le_of_ble_eq_true rfl⟩) (fun r8 er8 => ?_)
    refine lv_if_eq (tgt := 36) hx hb dX10_dial_11 (by decide) (fun c11 => ?_) (fun c11 => ?_)
    · refine lv_ldc hx hb (v := (-2000000001)) hown (hts (.constant RX10 86 (-2000000001)) (by decide +kernel)) dX10_dial_36 ?_
      refine W.widen (k := 1) (n := 7) (by decide) (by decide) ?_
      exact W.iret (v := (-2000000001)) hx hb hr (fun t ht _ => ⟨⟨(-2000000001), S, rfl, ⟨q0, hf0, by subst er8; subst er1; first | (simp only [q_X10_dial, if_neg c4, if_pos c11]; done) | contradiction⟩, by dsimp only; rw [ht]; exact hW⟩, hS.F ht⟩) hS.2.2 dX10_dial_38
    · refine lv_iload_n hx hb dX10_dial_14 rfl (lv_at hl 3 rfl) ?_
      refine lv_iload hx hb dX10_dial_15 (lv_at hl 4 rfl) ?_
      refine k_Si (va_runS (As := [.int (p3), .int (p4)]) (rest := []) ⟨hx, hb, hml, hown, hts⟩ (c_X10_isSpot l p3 p4) (va_cwS 2 hts gX10_dial_X10_isSpot rfl rfl rfl (by decide +kernel) ⟨Nat.le_of_ble_eq_true rfl, Nat.le_of_ble_eq_true rfl⟩) gP0 rfl rfl hl.1 rfl (lv_room (Nat.le_of_ble_eq_true rfl)) dX10_dial_17 ⟨Nat.le_of_ble_eq_true rfl, Nat.le_of_ble_eq_true rfl⟩) (fun r17 er17 => ?_)
      refine lv_if_eq (tgt := 36) hx hb dX10_dial_20 (by decide) (fun c20 => ?_) (fun c20 => ?_)
      · refine lv_ldc hx hb (v := (-2000000001)) hown (hts (.constant RX10 86 (-2000000001)) (by decide +kernel)) dX10_dial_36 ?_
        refine W.widen (k := 1) (n := 7) (by decide) (by decide) ?_
        exact W.iret (v := (-2000000001)) hx hb hr (fun t ht _ => ⟨⟨(-2000000001), S, rfl, ⟨q0, hf0, by subst er17; subst er8; subst er1; first | (simp only [q_X10_dial, if_neg c4, if_neg c11, if_pos c20]; done) | contradiction⟩, by dsimp only; rw [ht]; exact hW⟩, hS.F ht⟩) hS.2.2 dX10_dial_38
      · refine lv_iload hx hb dX10_dial_23 (lv_at hl 5 rfl) ?_
        refine lv_i2l (v := p5.toInt64) hx hb dX10_dial_25 rfl ?_
        refine lv_lconst (v := 1) hx hb dX10_dial_26 (by decide) ?_
        refine lv_ldc2 hx hb (v := 1000) hown (hts (.constantLong RX10 153 (1000)) (by decide +kernel)) dX10_dial_27 ?_
        refine k_Si (va_runS (As := [.long (p5.toInt64), .long (1), .long (1000)]) (rest := []) ⟨hx, hb, hml, hown, hts⟩ (c_X10_within l (p5.toInt64) 1 1000) (va_cwS 3 hts gX10_dial_X10_within rfl rfl rfl (by decide +kernel) ⟨Nat.le_of_ble_eq_true rfl, Nat.le_of_ble_eq_true rfl⟩) gP0 rfl rfl hl.1 rfl (lv_room (Nat.le_of_ble_eq_true rfl)) dX10_dial_30 ⟨Nat.le_of_ble_eq_true rfl, Nat.le_of_ble_eq_true rfl⟩) (fun r30 er30 => ?_)
        refine lv_if_ne (tgt := 39) hx hb dX10_dial_33 (by decide) (fun c33 => ?_) (fun c33 => ?_)
        · refine lv_aload_n hx hb dX10_dial_39 rfl (lv_at hl 0 rfl) ?_
          refine lv_iload_n hx hb dX10_dial_40 rfl (lv_at hl 1 rfl) ?_
          refine va_new (D := eD E) (cl := vwCl) (tys := eT E) (A := eA E) (ci := 1) (fs := [.int 0, .int 0, .int 0, .int 0, .int 0, .int 0, .int 0]) (C := RX1) (T := TX1) (N := 7) hx hb hts hinX1 tyX1 tyX1_ok hown (hts (.classLink RX10 155 RX1) (by decide +kernel)) (hts (.instantiable RX1 7) (by decide +kernel)) (hts (.initialized RX1) (by decide +kernel)) hE.1 hW.1 hW.2 hS hE.2.1 rfl (fun j hj => by rcases (show j = 0 ∨ j = 1 ∨ j = 2 ∨ j = 3 ∨ j = 4 ∨ j = 5 ∨ j = 6 by omega) with rfl | rfl | rfl | rfl | rfl | rfl | rfl <;> rfl) (Nat.le_of_ble_eq_true rfl) (Nat.le_of_ble_eq_true rfl) dX10_dial_41 (fun q41 H hP hD hS => ?_)
          have hf41 : q41 ∉ S.2.2.1 := wJ_fresh hD
          obtain ⟨S41, eS41⟩ : ∃ z : gSc, z = sN S q41 1 (fun _ => 0) := ⟨_, rfl⟩
          have hW : gW E M S41 H := by rw [eS41]; exact gW.of (wJ_newD E M S hf41) hP hD
          have hL41 : q41 ∈ S41.2.2.1 := by rw [eS41]; exact List.mem_append_right _ (List.mem_singleton.mpr rfl)
          have hK41 : S41.2.2.2.1 q41 = 1 := by rw [eS41]; simp [sN, va_up]
          refine W.widen (k := 1) (n := 7) (by decide) (by decide) ?_
          refine lv_dup hx hb dX10_dial_44 rfl ?_
          refine lv_iload_n hx hb dX10_dial_45 rfl (lv_at hl 2 rfl) ?_
          refine lv_iload_n hx hb dX10_dial_46 rfl (lv_at hl 3 rfl) ?_
          refine lv_iload hx hb dX10_dial_47 (lv_at hl 4 rfl) ?_
          refine lv_iload hx hb dX10_dial_49 (lv_at hl 5 rfl) ?_
          refine lv_iconst (v := 0) hx hb dX10_dial_51 (by decide) ?_
          refine lv_sipush (v := 8192) hx hb dX10_dial_52 (by decide) ?_
          refine lv_ldc hx hb (v := 16777215) hown (hts (.constant RX10 157 (16777215)) (by decide +kernel)) dX10_dial_55 ?_
          obtain ⟨k57, hk57⟩ := wJ_d E M (S := S41) hL41 hK41
          refine va_callv (va_runI (As := [.int (p2), .int (p3), .int (p4), .int (p5), .int (0), .int (8192), .int (16777215)]) (rest := [.ref (q41), .int (p1), .ref (eC E 0)]) ⟨hx, hb, hml, hown, hts⟩ (c_X1_init l E M S41 q41 p2 p3 p4 p5 0 8192 16777215 hL41 hK41) (cwI 7 hts gX10_dial_X1_init rfl rfl rfl (hts (.initialized RX1) (by decide +kernel)) (hts (.methodLink RX10 158 yX1_init) (by decide +kernel)) (hts (.instanceMethod yX1_init) (by decide +kernel)) rfl (by decide +kernel) ⟨Nat.le_of_ble_eq_true rfl, Nat.le_of_ble_eq_true rfl⟩) (gP.S hE hS hW) rfl rfl hl.1 rfl (lv_room (Nat.le_of_ble_eq_true rfl)) dX10_dial_57 ⟨Nat.le_of_ble_eq_true rfl, Nat.le_of_ble_eq_true rfl⟩) hS (fun _ _ h => h) (fun _ h => h) (fun S57 t H locs ht hvm hw hB hz1 hk1 hS => ?_)
          have eS57 : S57 = q_X1_init S41 q41 p2 p3 p4 p5 0 8192 16777215 := hw
          clear hw
          have hW : gW E M S57 H := by rw [← ht]; exact hB
          refine va_callv (va_runV (As := [.int (p1), .ref (q41)]) (rest := []) ⟨hx, hb, hml, hown, hts⟩ (c_X10_put l E M S57 p1 (some q41) (by intro b h; cases h; exact (by rw [eS57]; exact hL41)) (isPc_of er1 c4) (okR_L hT (by rw [eS57, eS41]; rfl) (by rw [eS57, eS41]; exact fun _ h => List.mem_append_left _ h))) (cwV 2 hts gX10_dial_X10_put rfl rfl rfl (by decide +kernel) ⟨Nat.le_of_ble_eq_true rfl, Nat.le_of_ble_eq_true rfl⟩) (gP.V (ci := 9) (q := (RX10, TX10, 12)) (q0 := 11) hE hS hW rfl rfl) rfl rfl hl.1 rfl (lv_room (Nat.le_of_ble_eq_true rfl)) dX10_dial_60 ⟨Nat.le_of_ble_eq_true rfl, Nat.le_of_ble_eq_true rfl⟩) hS (fun _ _ h => h) (fun _ h => h) (fun S60 t H locs ht hvm hw hB hz1 hk1 hS => ?_)
          have eS60 : S60 = q_X10_put S57 p1 (some q41) := hw
          clear hw
          have hW : gW E M S60 H := by rw [← ht]; exact hB
          have hpS60 : S60.2.2 = S57.2.2 := by rw [eS60]; exact (qp_X10_put _ _ _)
          refine lv_iconst (v := 0) hx hb dX10_dial_63 (by decide) ?_
          exact W.iret (v := 0) hx hb hr (fun t ht _ => ⟨⟨0, S60, rfl, ⟨q41, hf41, by subst eS60; subst eS57; subst eS41; subst er30; subst er17; subst er8; subst er1; first | (simp only [q_X10_dial, if_neg c4, if_neg c11, if_neg c20, if_neg c33]; done) | contradiction⟩, by dsimp only; rw [ht]; exact hW⟩, hS.F ht⟩) hS.2.2 dX10_dial_64
        · refine lv_ldc hx hb (v := (-2000000001)) hown (hts (.constant RX10 86 (-2000000001)) (by decide +kernel)) dX10_dial_36 ?_
          refine W.widen (k := 1) (n := 7) (by decide) (by decide) ?_
          exact W.iret (v := (-2000000001)) hx hb hr (fun t ht _ => ⟨⟨(-2000000001), S, rfl, ⟨q0, hf0, by subst er30; subst er17; subst er8; subst er1; first | (simp only [q_X10_dial, if_neg c4, if_neg c11, if_neg c20, if_pos c33]; done) | contradiction⟩, by dsimp only; rw [ht]; exact hW⟩, hS.F ht⟩) hS.2.2 dX10_dial_38

def q_X10_house (S : gSc) (p1 : Int32) (p2 : Int32) (p3 : Int32) (p4 : Int64) (p5 : Int32) (q : Nat) : Int32 × gSc := (let r1 := q_X10_isPlace p1; (if r1 = 0 then ((-2000000001), S) else (let r9 := q_X10_isSpot p2 p3; (if r9 = 0 then ((-2000000001), S) else (let r22 := q_X10_within (p5.toInt64) 1 10000; (if r22 = 0 then ((-2000000001), S) else (let r37 := q_X10_within p4 0 1073741823; (if r37 = 0 then ((-2000000001), S) else (let x57 := ((p4 / 32768).toInt32) - 16384; (let x70 := ((p4 - p4 / 32768 * 32768).toInt32) - 16384; (let r76 := q_X10_isSpot x57 x70; (if r76 = 0 then ((-2000000001), S) else (if x57 = p2 then (if x70 = p3 then ((-2000000001), S) else (let S99 := sN S q 2 (fun _ => 0); (let S111 := q_X2_init S99 q p2 p3 x57 x70 p5; (let S114 := q_X10_put S111 p1 (some q); (0, S114))))) else (let S99 := sN S q 2 (fun _ => 0); (let S111 := q_X2_init S99 q p2 p3 x57 x70 p5; (let S114 := q_X10_put S111 p1 (some q); (0, S114)))))))))))))))))
set_option maxHeartbeats 4000000 in
set_option maxRecDepth 100000 in
theorem c_X10_house (l : Launch) (E : gEE) (M : gSm) (S : gSc) (p1 : Int32) (p2 : Int32) (p3 : Int32) (p4 : Int64) (p5 : Int32) (hT : okR S 3 40) : Met l yX10_house wsX10_house ({ frames := 3, cells := 1, slots := 5, locals := 66 }) (va_Pc [.ref (eC E 0), .int (p1), .int (p2), .int (p3), .long (p4), .int (p5)] (gP E M S)) (va_Qi (fun r (u : gSc) => ∃ q : Nat, q ∉ S.2.2.1 ∧ (r, u) = q_X10_house S p1 p2 p3 p4 p5 q) (fun u t => gW E M u t.heap) (eA E)) 1 5 (eA E) := by
  refine Met.ofW (cc := cX10_house) (maxL := 9) (ret := (some .int)) (by decide) rfl ?_
  intro p e s m args below meth c s₁ B hml hv
  obtain ⟨rfl, hE, hW⟩ := hv
  have hx := B.exec
  have hb := B.bytes
  have hr := B.returns
  have hts := atoms_spec (ws := wsX10_house) B.pre
  have hown : s.vm.findClass RX10 = some m.cls := findClass_of_methodNamed B.named
  have hlocks := B.notSynchronized
  obtain ⟨q0, hf0⟩ := fr_ex S.2.2.1
  have hinX2 : ∀ w ∈ wsX20, w ∈ wsX10_house := by decide +kernel
  have hS : va_S (eA E) s.heap s.heap [] := va_S.rf
  have hl := lv_entry ([.ref (eC E 0), .int (p1), .int (p2), .int (p3), .long (p4), .int (p5)]) (n := 9) (Nat.le_of_ble_eq_true rfl)
  rw [lg_entry_eq]
  generalize (lg_sl ([.ref (eC E 0), .int (p1), .int (p2), .int (p3), .long (p4), .int (p5)]) ++ List.replicate (9 - (lg_sl ([.ref (eC E 0), .int (p1), .int (p2), .int (p3), .long (p4), .int (p5)])).length) Slot.unset).toArray = ls at hl ⊢
  have hl : lv_has ls 9 [(0, .ref (eC E 0)), (1, .int (p1)), (2, .int (p2)), (3, .int (p3)), (4, .long (p4)), (6, .int (p5))] := hl
  have hS : ∃ (H : Heap) (locs : List Loc), H = s.heap ∧ locs = [] ∧ gW E M S H ∧ va_S (eA E) s.heap H locs := ⟨_, _, rfl, rfl, hW, hS⟩
  clear hW
  obtain ⟨H, locs, eH, el, hW, hS⟩ := hS
  rw [← eH, ← el]
  clear eH el
  refine lv_iload_n hx hb dX10_house_0 rfl (lv_at hl 1 rfl) ?_
  refine k_Si (va_runS (As := [.int (p1)]) (rest := []) ⟨hx, hb, hml, hown, hts⟩ (c_X10_isPlace l p1) (va_cwS 1 hts gX10_house_X10_isPlace rfl rfl rfl (by decide +kernel) ⟨Nat.le_of_ble_eq_true rfl, Nat.le_of_ble_eq_true rfl⟩) gP0 rfl rfl hl.1 rfl (lv_room (Nat.le_of_ble_eq_true rfl)) dX10_house_1 ⟨Nat.le_of_ble_eq_true rfl, Nat.le_of_ble_eq_true rfl⟩) (fun r1 er1 => ?_)
  refine lv_if_eq (tgt := 28) hx hb dX10_house_4 (by decide) (fun c4 => ?_) (fun c4 => ?_)
  · refine lv_ldc hx hb (v := (-2000000001)) hown (hts (.constant RX10 86 (-2000000001)) (by decide +kernel)) dX10_house_28 ?_
    refine W.widen (k := 1) (n := 5) (by decide) (by decide) ?_
    exact W.iret (v := (-2000000001)) hx hb hr (fun t ht _ => ⟨⟨(-2000000001), S, rfl, ⟨q0, hf0, by subst er1; first | (simp only [q_X10_house, if_pos c4]; done) | contradiction⟩, by dsimp only; rw [ht]; exact hW⟩, hS.F ht⟩) hS.2.2 dX10_house_30
  · refine lv_iload_n hx hb dX10_house_7 rfl (lv_at hl 2 rfl) ?_
    refine lv_iload_n hx hb dX10_house_8 rfl (lv_at hl 3 rfl) ?_
    refine k_Si (va_runS (As := [.int (p2), .int (p3)]) (rest := []) ⟨hx, hb, hml, hown, hts⟩ (c_X10_isSpot l p2 p3) (va_cwS 2 hts gX10_house_X10_isSpot rfl rfl rfl (by decide +kernel) ⟨Nat.le_of_ble_eq_true rfl, Nat.le_of_ble_eq_true rfl⟩) gP0 rfl rfl hl.1 rfl (lv_room (Nat.le_of_ble_eq_true rfl)) dX10_house_9 ⟨Nat.le_of_ble_eq_true rfl, Nat.le_of_ble_eq_true rfl⟩) (fun r9 er9 => ?_)
    refine lv_if_eq (tgt := 28) hx hb dX10_house_12 (by decide) (fun c12 => ?_) (fun c12 => ?_)
    · refine lv_ldc hx hb (v := (-2000000001)) hown (hts (.constant RX10 86 (-2000000001)) (by decide +kernel)) dX10_house_28 ?_
      refine W.widen (k := 1) (n := 5) (by decide) (by decide) ?_
      exact W.iret (v := (-2000000001)) hx hb hr (fun t ht _ => ⟨⟨(-2000000001), S, rfl, ⟨q0, hf0, by subst er9; subst er1; first | (simp only [q_X10_house, if_neg c4, if_pos c12]; done) | contradiction⟩, by dsimp only; rw [ht]; exact hW⟩, hS.F ht⟩) hS.2.2 dX10_house_30
    · refine lv_iload hx hb dX10_house_15 (lv_at hl 5 rfl) ?_
      refine lv_i2l (v := p5.toInt64) hx hb dX10_house_17 rfl ?_
      refine lv_lconst (v := 1) hx hb dX10_house_18 (by decide) ?_
      refine lv_ldc2 hx hb (v := 10000) hown (hts (.constantLong RX10 165 (10000)) (by decide +kernel)) dX10_house_19 ?_
      refine k_Si (va_runS (As := [.long (p5.toInt64), .long (1), .long (10000)]) (rest := []) ⟨hx, hb, hml, hown, hts⟩ (c_X10_within l (p5.toInt64) 1 10000) (va_cwS 3 hts gX10_house_X10_within rfl rfl rfl (by decide +kernel) ⟨Nat.le_of_ble_eq_true rfl, Nat.le_of_ble_eq_true rfl⟩) gP0 rfl rfl hl.1 rfl (lv_room (Nat.le_of_ble_eq_true rfl)) dX10_house_22 ⟨Nat.le_of_ble_eq_true rfl, Nat.le_of_ble_eq_true rfl⟩) (fun r22 er22 => ?_)
      refine lv_if_ne (tgt := 31) hx hb dX10_house_25 (by decide) (fun c25 => ?_) (fun c25 => ?_)
      · refine lv_lload hx hb dX10_house_31 (lv_at hl 4 rfl) ?_
        refine lv_lconst (v := 0) hx hb dX10_house_33 (by decide) ?_
        refine lv_ldc2 hx hb (v := 1073741823) hown (hts (.constantLong RX10 167 (1073741823)) (by decide +kernel)) dX10_house_34 ?_
        refine k_Si (va_runS (As := [.long (p4), .long (0), .long (1073741823)]) (rest := []) ⟨hx, hb, hml, hown, hts⟩ (c_X10_within l p4 0 1073741823) (va_cwS 3 hts gX10_house_X10_within rfl rfl rfl (by decide +kernel) ⟨Nat.le_of_ble_eq_true rfl, Nat.le_of_ble_eq_true rfl⟩) gP0 rfl rfl hl.1 rfl (lv_room (Nat.le_of_ble_eq_true rfl)) dX10_house_37 ⟨Nat.le_of_ble_eq_true rfl, Nat.le_of_ble_eq_true rfl⟩) (fun r37 er37 => ?_)
        refine lv_if_ne (tgt := 46) hx hb dX10_house_40 (by decide) (fun c40 => ?_) (fun c40 => ?_)
        · refine lv_lload hx hb dX10_house_46 (lv_at hl 4 rfl) ?_
          refine lv_ldc2 hx hb (v := 32768) hown (hts (.constantLong RX10 169 (32768)) (by decide +kernel)) dX10_house_48 ?_
          refine lv_ldiv hx hb dX10_house_51 (by decide) ?_
          refine lv_l2i (v := (p4 / 32768).toInt32) hx hb dX10_house_52 rfl ?_
          refine lv_sipush (v := 16384) hx hb dX10_house_53 (by decide) ?_
          refine lv_isub hx hb dX10_house_56 ?_
          refine lv_topi (fun x57 ex57 => ?_)
          refine lv_istore (lv' := [(7, .int (x57)), (0, .ref (eC E 0)), (1, .int (p1)), (2, .int (p2)), (3, .int (p3)), (4, .long (p4)), (6, .int (p5))]) hx hb dX10_house_57 hl (by decide) rfl (fun ls hl => ?_)
          refine lv_lload hx hb dX10_house_59 (lv_at hl 5 rfl) ?_
          refine lv_ldc2 hx hb (v := 32768) hown (hts (.constantLong RX10 169 (32768)) (by decide +kernel)) dX10_house_61 ?_
          refine lv_lrem hx hb dX10_house_64 (by decide) ?_
          refine lv_l2i (v := (p4 - p4 / 32768 * 32768).toInt32) hx hb dX10_house_65 rfl ?_
          refine lv_sipush (v := 16384) hx hb dX10_house_66 (by decide) ?_
          refine lv_isub hx hb dX10_house_69 ?_
          refine lv_topi (fun x70 ex70 => ?_)
          refine lv_istore (lv' := [(8, .int (x70)), (7, .int (x57)), (0, .ref (eC E 0)), (1, .int (p1)), (2, .int (p2)), (3, .int (p3)), (4, .long (p4)), (6, .int (p5))]) hx hb dX10_house_70 hl (by decide) rfl (fun ls hl => ?_)
          refine lv_iload hx hb dX10_house_72 (lv_at hl 1 rfl) ?_
          refine lv_iload hx hb dX10_house_74 (lv_at hl 0 rfl) ?_
          refine k_Si (va_runS (As := [.int (x57), .int (x70)]) (rest := []) ⟨hx, hb, hml, hown, hts⟩ (c_X10_isSpot l x57 x70) (va_cwS 2 hts gX10_house_X10_isSpot rfl rfl rfl (by decide +kernel) ⟨Nat.le_of_ble_eq_true rfl, Nat.le_of_ble_eq_true rfl⟩) gP0 rfl rfl hl.1 rfl (lv_room (Nat.le_of_ble_eq_true rfl)) dX10_house_76 ⟨Nat.le_of_ble_eq_true rfl, Nat.le_of_ble_eq_true rfl⟩) (fun r76 er76 => ?_)
          refine lv_if_eq (tgt := 94) hx hb dX10_house_79 (by decide) (fun c79 => ?_) (fun c79 => ?_)
          · refine lv_ldc hx hb (v := (-2000000001)) hown (hts (.constant RX10 86 (-2000000001)) (by decide +kernel)) dX10_house_94 ?_
            refine W.widen (k := 1) (n := 5) (by decide) (by decide) ?_
            exact W.iret (v := (-2000000001)) hx hb hr (fun t ht _ => ⟨⟨(-2000000001), S, rfl, ⟨q0, hf0, by subst er76; subst ex70; subst ex57; subst er37; subst er22; subst er9; subst er1; first | (simp only [q_X10_house, if_neg c4, if_neg c12, if_neg c25, if_neg c40, if_pos c79]; done) | contradiction⟩, by dsimp only; rw [ht]; exact hW⟩, hS.F ht⟩) hS.2.2 dX10_house_96
          · refine lv_iload hx hb dX10_house_82 (lv_at hl 1 rfl) ?_
            refine lv_iload_n hx hb dX10_house_84 rfl (lv_at hl 4 rfl) ?_
            refine lv_icmp_ne (tgt := 97) hx hb dX10_house_85 (by decide) (fun c85 => ?_) (fun c85 => ?_)
            · refine lv_aload_n hx hb dX10_house_97 rfl (lv_at hl 2 rfl) ?_
              refine lv_iload_n hx hb dX10_house_98 rfl (lv_at hl 3 rfl) ?_
              refine va_new (D := eD E) (cl := vwCl) (tys := eT E) (A := eA E) (ci := 2) (fs := [.int 0, .int 0, .int 0, .int 0, .int 0]) (C := RX2) (T := TX2) (N := 5) hx hb hts hinX2 tyX2 tyX2_ok hown (hts (.classLink RX10 171 RX2) (by decide +kernel)) (hts (.instantiable RX2 5) (by decide +kernel)) (hts (.initialized RX2) (by decide +kernel)) hE.1 hW.1 hW.2 hS hE.2.1 rfl (fun j hj => by rcases (show j = 0 ∨ j = 1 ∨ j = 2 ∨ j = 3 ∨ j = 4 by omega) with rfl | rfl | rfl | rfl | rfl <;> rfl) (Nat.le_of_ble_eq_true rfl) (Nat.le_of_ble_eq_true rfl) dX10_house_99 (fun q99 H hP hD hS => ?_)
              have hf99 : q99 ∉ S.2.2.1 := wJ_fresh hD
              obtain ⟨S99, eS99⟩ : ∃ z : gSc, z = sN S q99 2 (fun _ => 0) := ⟨_, rfl⟩
              have hW : gW E M S99 H := by rw [eS99]; exact gW.of (wJ_newH E M S hf99) hP hD
              have hL99 : q99 ∈ S99.2.2.1 := by rw [eS99]; exact List.mem_append_right _ (List.mem_singleton.mpr rfl)
              have hK99 : ¬ S99.2.2.2.1 q99 = 1 := by rw [eS99]; simp [sN, va_up]
              refine W.widen (k := 1) (n := 5) (by decide) (by decide) ?_
              refine lv_dup hx hb dX10_house_102 rfl ?_
              refine lv_iload_n hx hb dX10_house_103 rfl (lv_at hl 4 rfl) ?_
              refine lv_iload_n hx hb dX10_house_104 rfl (lv_at hl 5 rfl) ?_
              refine lv_iload hx hb dX10_house_105 (lv_at hl 1 rfl) ?_
              refine lv_iload hx hb dX10_house_107 (lv_at hl 0 rfl) ?_
              refine lv_iload hx hb dX10_house_109 (lv_at hl 7 rfl) ?_
              obtain ⟨k111, hk111⟩ := wJ_h E M (S := S99) hL99 hK99
              refine va_callv (va_runI (As := [.int (p2), .int (p3), .int (x57), .int (x70), .int (p5)]) (rest := [.ref (q99), .int (p1), .ref (eC E 0)]) ⟨hx, hb, hml, hown, hts⟩ (c_X2_init l E M S99 q99 p2 p3 x57 x70 p5 hL99 hK99) (cwI 5 hts gX10_house_X2_init rfl rfl rfl (hts (.initialized RX2) (by decide +kernel)) (hts (.methodLink RX10 173 yX2_init) (by decide +kernel)) (hts (.instanceMethod yX2_init) (by decide +kernel)) rfl (by decide +kernel) ⟨Nat.le_of_ble_eq_true rfl, Nat.le_of_ble_eq_true rfl⟩) (gP.S hE hS hW) rfl rfl hl.1 rfl (lv_room (Nat.le_of_ble_eq_true rfl)) dX10_house_111 ⟨Nat.le_of_ble_eq_true rfl, Nat.le_of_ble_eq_true rfl⟩) hS (fun _ _ h => h) (fun _ h => h) (fun S111 t H locs ht hvm hw hB hz1 hk1 hS => ?_)
              have eS111 : S111 = q_X2_init S99 q99 p2 p3 x57 x70 p5 := hw
              clear hw
              have hW : gW E M S111 H := by rw [← ht]; exact hB
              refine va_callv (va_runV (As := [.int (p1), .ref (q99)]) (rest := []) ⟨hx, hb, hml, hown, hts⟩ (c_X10_put l E M S111 p1 (some q99) (by intro b h; cases h; exact (by rw [eS111]; exact hL99)) (isPc_of er1 c4) (okR_L hT (by rw [eS111, eS99]; rfl) (by rw [eS111, eS99]; exact fun _ h => List.mem_append_left _ h))) (cwV 2 hts gX10_house_X10_put rfl rfl rfl (by decide +kernel) ⟨Nat.le_of_ble_eq_true rfl, Nat.le_of_ble_eq_true rfl⟩) (gP.V (ci := 9) (q := (RX10, TX10, 12)) (q0 := 11) hE hS hW rfl rfl) rfl rfl hl.1 rfl (lv_room (Nat.le_of_ble_eq_true rfl)) dX10_house_114 ⟨Nat.le_of_ble_eq_true rfl, Nat.le_of_ble_eq_true rfl⟩) hS (fun _ _ h => h) (fun _ h => h) (fun S114 t H locs ht hvm hw hB hz1 hk1 hS => ?_)
              have eS114 : S114 = q_X10_put S111 p1 (some q99) := hw
              clear hw
              have hW : gW E M S114 H := by rw [← ht]; exact hB
              have hpS114 : S114.2.2 = S111.2.2 := by rw [eS114]; exact (qp_X10_put _ _ _)
              refine lv_iconst (v := 0) hx hb dX10_house_117 (by decide) ?_
              exact W.iret (v := 0) hx hb hr (fun t ht _ => ⟨⟨0, S114, rfl, ⟨q99, hf99, by subst eS114; subst eS111; subst eS99; subst er76; subst ex70; subst ex57; subst er37; subst er22; subst er9; subst er1; first | (simp only [q_X10_house, if_neg c4, if_neg c12, if_neg c25, if_neg c40, if_neg c79, if_neg c85]; done) | contradiction⟩, by dsimp only; rw [ht]; exact hW⟩, hS.F ht⟩) hS.2.2 dX10_house_118
            · refine lv_iload hx hb dX10_house_88 (lv_at hl 0 rfl) ?_
              refine lv_iload_n hx hb dX10_house_90 rfl (lv_at hl 5 rfl) ?_
              refine lv_icmp_ne (tgt := 97) hx hb dX10_house_91 (by decide) (fun c91 => ?_) (fun c91 => ?_)
              · refine lv_aload_n hx hb dX10_house_97 rfl (lv_at hl 2 rfl) ?_
                refine lv_iload_n hx hb dX10_house_98 rfl (lv_at hl 3 rfl) ?_
                refine va_new (D := eD E) (cl := vwCl) (tys := eT E) (A := eA E) (ci := 2) (fs := [.int 0, .int 0, .int 0, .int 0, .int 0]) (C := RX2) (T := TX2) (N := 5) hx hb hts hinX2 tyX2 tyX2_ok hown (hts (.classLink RX10 171 RX2) (by decide +kernel)) (hts (.instantiable RX2 5) (by decide +kernel)) (hts (.initialized RX2) (by decide +kernel)) hE.1 hW.1 hW.2 hS hE.2.1 rfl (fun j hj => by rcases (show j = 0 ∨ j = 1 ∨ j = 2 ∨ j = 3 ∨ j = 4 by omega) with rfl | rfl | rfl | rfl | rfl <;> rfl) (Nat.le_of_ble_eq_true rfl) (Nat.le_of_ble_eq_true rfl) dX10_house_99 (fun q99 H hP hD hS => ?_)
                have hf99 : q99 ∉ S.2.2.1 := wJ_fresh hD
                obtain ⟨S99, eS99⟩ : ∃ z : gSc, z = sN S q99 2 (fun _ => 0) := ⟨_, rfl⟩
                have hW : gW E M S99 H := by rw [eS99]; exact gW.of (wJ_newH E M S hf99) hP hD
                have hL99 : q99 ∈ S99.2.2.1 := by rw [eS99]; exact List.mem_append_right _ (List.mem_singleton.mpr rfl)
                have hK99 : ¬ S99.2.2.2.1 q99 = 1 := by rw [eS99]; simp [sN, va_up]
                refine W.widen (k := 1) (n := 5) (by decide) (by decide) ?_
                refine lv_dup hx hb dX10_house_102 rfl ?_
                refine lv_iload_n hx hb dX10_house_103 rfl (lv_at hl 4 rfl) ?_
                refine lv_iload_n hx hb dX10_house_104 rfl (lv_at hl 5 rfl) ?_
                refine lv_iload hx hb dX10_house_105 (lv_at hl 1 rfl) ?_
                refine lv_iload hx hb dX10_house_107 (lv_at hl 0 rfl) ?_
                refine lv_iload hx hb dX10_house_109 (lv_at hl 7 rfl) ?_
                obtain ⟨k111, hk111⟩ := wJ_h E M (S := S99) hL99 hK99
                refine va_callv (va_runI (As := [.int (p2), .int (p3), .int (x57), .int (x70), .int (p5)]) (rest := [.ref (q99), .int (p1), .ref (eC E 0)]) ⟨hx, hb, hml, hown, hts⟩ (c_X2_init l E M S99 q99 p2 p3 x57 x70 p5 hL99 hK99) (cwI 5 hts gX10_house_X2_init rfl rfl rfl (hts (.initialized RX2) (by decide +kernel)) (hts (.methodLink RX10 173 yX2_init) (by decide +kernel)) (hts (.instanceMethod yX2_init) (by decide +kernel)) rfl (by decide +kernel) ⟨Nat.le_of_ble_eq_true rfl, Nat.le_of_ble_eq_true rfl⟩) (gP.S hE hS hW) rfl rfl hl.1 rfl (lv_room (Nat.le_of_ble_eq_true rfl)) dX10_house_111 ⟨Nat.le_of_ble_eq_true rfl, Nat.le_of_ble_eq_true rfl⟩) hS (fun _ _ h => h) (fun _ h => h) (fun S111 t H locs ht hvm hw hB hz1 hk1 hS => ?_)
                have eS111 : S111 = q_X2_init S99 q99 p2 p3 x57 x70 p5 := hw
                clear hw
                have hW : gW E M S111 H := by rw [← ht]; exact hB
                refine va_callv (va_runV (As := [.int (p1), .ref (q99)]) (rest := []) ⟨hx, hb, hml, hown, hts⟩ (c_X10_put l E M S111 p1 (some q99) (by intro b h; cases h; exact (by rw [eS111]; exact hL99)) (isPc_of er1 c4) (okR_L hT (by rw [eS111, eS99]; rfl) (by rw [eS111, eS99]; exact fun _ h => List.mem_append_left _ h))) (cwV 2 hts gX10_house_X10_put rfl rfl rfl (by decide +kernel) ⟨Nat.le_of_ble_eq_true rfl, Nat.le_of_ble_eq_true rfl⟩) (gP.V (ci := 9) (q := (RX10, TX10, 12)) (q0 := 11) hE hS hW rfl rfl) rfl rfl hl.1 rfl (lv_room (Nat.le_of_ble_eq_true rfl)) dX10_house_114 ⟨Nat.le_of_ble_eq_true rfl, Nat.le_of_ble_eq_true rfl⟩) hS (fun _ _ h => h) (fun _ h => h) (fun S114 t H locs ht hvm hw hB hz1 hk1 hS => ?_)
                have eS114 : S114 = q_X10_put S111 p1 (some q99) := hw
                clear hw
                have hW : gW E M S114 H := by rw [← ht]; exact hB
                have hpS114 : S114.2.2 = S111.2.2 := by rw [eS114]; exact (qp_X10_put _ _ _)
                refine lv_iconst (v := 0) hx hb dX10_house_117 (by decide) ?_
                exact W.iret (v := 0) hx hb hr (fun t ht _ => ⟨⟨0, S114, rfl, ⟨q99, hf99, by subst eS114; subst eS111; subst eS99; subst er76; subst ex70; subst ex57; subst er37; subst er22; subst er9; subst er1; first | (simp only [q_X10_house, if_neg c4, if_neg c12, if_neg c25, if_neg c40, if_neg c79, if_pos c85, if_neg c91]; done) | contradiction⟩, by dsimp only; rw [ht]; exact hW⟩, hS.F ht⟩) hS.2.2 dX10_house_118
              · refine lv_ldc hx hb (v := (-2000000001)) hown (hts (.constant RX10 86 (-2000000001)) (by decide +kernel)) dX10_house_94 ?_
                refine W.widen (k := 1) (n := 5) (by decide) (by decide) ?_
                exact W.iret (v := (-2000000001)) hx hb hr (fun t ht _ => ⟨⟨(-2000000001), S, rfl, ⟨q0, hf0, by subst er76; subst ex70; subst ex57; subst er37; subst er22; subst er9; subst er1; first | (simp only [q_X10_house, if_neg c4, if_neg c12, if_neg c25, if_neg c40, if_neg c79, if_pos c85, if_pos c91]; done) | contradiction⟩, by dsimp only; rw [ht]; exact hW⟩, hS.F ht⟩) hS.2.2 dX10_house_96
        · refine lv_ldc hx hb (v := (-2000000001)) hown (hts (.constant RX10 86 (-2000000001)) (by decide +kernel)) dX10_house_43 ?_
          refine W.widen (k := 1) (n := 5) (by decide) (by decide) ?_
          exact W.iret (v := (-2000000001)) hx hb hr (fun t ht _ => ⟨⟨(-2000000001), S, rfl, ⟨q0, hf0, by subst er37; subst er22; subst er9; subst er1; first | (simp only [q_X10_house, if_neg c4, if_neg c12, if_neg c25, if_pos c40]; done) | contradiction⟩, by dsimp only; rw [ht]; exact hW⟩, hS.F ht⟩) hS.2.2 dX10_house_45
      · refine lv_ldc hx hb (v := (-2000000001)) hown (hts (.constant RX10 86 (-2000000001)) (by decide +kernel)) dX10_house_28 ?_
        refine W.widen (k := 1) (n := 5) (by decide) (by decide) ?_
        exact W.iret (v := (-2000000001)) hx hb hr (fun t ht _ => ⟨⟨(-2000000001), S, rfl, ⟨q0, hf0, by subst er22; subst er9; subst er1; first | (simp only [q_X10_house, if_neg c4, if_neg c12, if_pos c25]; done) | contradiction⟩, by dsimp only; rw [ht]; exact hW⟩, hS.F ht⟩) hS.2.2 dX10_house_30
