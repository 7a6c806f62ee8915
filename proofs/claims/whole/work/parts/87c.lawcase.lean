set_option maxHeartbeats 4000000 in
set_option maxRecDepth 100000 in
theorem lc_10 {p : Program} {l : Launch} {e : Env} {s : State} {m : MethodId} {below : List Frame} {meth : Method} {c : Code} {b L : Nat} {xs : Nat → Int32} (C0 : lw_At p s m meth c b L xs) (hts : ∀ w ∈ wsL_law, w.before #[Value.ref b] s = true) {E : gEE} (hE : gE E s) (hbA : ¬ eA E b) (hL : L ≤ 3584) {i : Nat} (hi : i + 7 ≤ L) {cells slots : Nat} (hc1 : cells + 1 ≤ 600000) (hs1 : slots + 7 ≤ 7302250) {M : gSm} {S : gSc} (hI : inv M S) {H : Heap} {locs : List Loc} (hW : gW E M S H) (hS : va_S (eA E) s.heap H locs) {ls : Array Slot} (hl : lv_has ls 4 [(0, .ref b), (1, .ref (eC E 0)), (2, .ref (eM E 0)), (3, .int (nI i))]) (kk : ∀ (M1 : gSm) (S1 : gSc) (H1 : Heap) (locs1 : List Loc), inv M1 S1 → gW E M1 S1 H1 → va_S (eA E) s.heap H1 locs1 → W p l e room_1 s m #[Value.ref b] below meth c H1 locs1 (cells + 1) (slots + 7) (lw_Z below #[Value.ref b] s) (F0 m 1290 ls [])) : W p l e room_1 s m #[Value.ref b] below meth c H locs cells slots (lw_Z below #[Value.ref b] s) (F0 m 580 ls []) := by
  obtain ⟨hx, hb, hr, hml, hown, -, hX, hbl, hlocks, hgv⟩ := C0
  have hown : s.vm.findClass RL = some m.cls := hown
  refine lv_aload_n hx hb dL_law_580 rfl (lv_at hl 1 rfl) ?_
  refine lv_aload_n hx hb dL_law_581 rfl (lv_at hl 0 rfl) ?_
  refine lv_iload_n hx hb dL_law_582 rfl (lv_at hl 3 rfl) ?_
  refine lv_iconst (v := 1) hx hb dL_law_583 (by decide) ?_
  refine lv_iadd hx hb dL_law_584 ?_
  refine va_sld hx hb hX hbl hbA hS (lw_ix1 hi hL) dL_law_585 ?_
  refine lv_aload_n hx hb dL_law_586 rfl (lv_at hl 0 rfl) ?_
  refine lv_iload_n hx hb dL_law_587 rfl (lv_at hl 3 rfl) ?_
  refine lv_iconst (v := 2) hx hb dL_law_588 (by decide) ?_
  refine lv_iadd hx hb dL_law_589 ?_
  refine va_sld hx hb hX hbl hbA hS (lw_ix2 hi hL) dL_law_590 ?_
  refine va_calli (va_runV (As := [.int (xs (nI i + 1).toNatClampNeg), .int (xs (nI i + 2).toNatClampNeg)]) (rest := []) ⟨hx, hb, hml, hown, hts⟩ (c_X10_face l E M S (xs (nI i + 1).toNatClampNeg) (xs (nI i + 2).toNatClampNeg) (iv_T hI)) (cwV 2 hts gL_law_X10_face rfl rfl rfl (by decide +kernel) ⟨Nat.le_of_ble_eq_true rfl, Nat.le_of_ble_eq_true rfl⟩) (gP.V (ci := 9) (q := (RX10, TX10, 12)) (q0 := 11) hE hS hW rfl rfl) rfl rfl hl.1 rfl (lv_room (Nat.le_of_ble_eq_true rfl)) dL_law_591 ⟨by show cells + 1 ≤ 600000; omega, by show slots + 7 ≤ 7302250; omega⟩) hS (fun _ _ h => h) (fun _ h => h) (fun r1 S1 t H locs ht9 hvm hw hB hzz hkk hS => ?_)
  obtain ⟨q1, hq1, hw⟩ := hw
  obtain ⟨er1, eS1⟩ := prj hw
  clear hw
  refine W.widen (k := cells + 1) (n := slots + 7) (by show cells + 1 ≤ cells + 1; omega) (by show slots + 7 ≤ slots + 7; omega) ?_
  have hW : gW E M S1 H := by rw [← ht9]; exact hB
  refine lv_aload_n hx hb dL_law_594 rfl (lv_at hl 2 rfl) ?_
  refine lv_aload_n hx hb dL_law_595 rfl (lv_at hl 0 rfl) ?_
  refine lv_iload_n hx hb dL_law_596 rfl (lv_at hl 3 rfl) ?_
  refine lv_iconst (v := 1) hx hb dL_law_597 (by decide) ?_
  refine lv_iadd hx hb dL_law_598 ?_
  refine va_sld hx hb hX hbl hbA hS (lw_ix1 hi hL) dL_law_599 ?_
  refine lv_aload_n hx hb dL_law_600 rfl (lv_at hl 0 rfl) ?_
  refine lv_iload_n hx hb dL_law_601 rfl (lv_at hl 3 rfl) ?_
  refine lv_iconst (v := 2) hx hb dL_law_602 (by decide) ?_
  refine lv_iadd hx hb dL_law_603 ?_
  refine va_sld hx hb hX hbl hbA hS (lw_ix2 hi hL) dL_law_604 ?_
  refine va_calli (va_runV (As := [.int (xs (nI i + 1).toNatClampNeg), .int (xs (nI i + 2).toNatClampNeg)]) (rest := [.int r1]) ⟨hx, hb, hml, hown, hts⟩ (c_X11_face l E M S1 (xs (nI i + 1).toNatClampNeg) (xs (nI i + 2).toNatClampNeg) (iv_mk0 hI) (iv_mk hI)) (cwV 2 hts gL_law_X11_face rfl rfl rfl (by decide +kernel) ⟨Nat.le_of_ble_eq_true rfl, Nat.le_of_ble_eq_true rfl⟩) (gP.V (ci := 10) (q := (RX11, TX11, 23)) (q0 := 0) hE hS hW rfl rfl) rfl rfl hl.1 rfl (lv_room (Nat.le_of_ble_eq_true rfl)) dL_law_605 ⟨by show cells + 1 + 0 ≤ 600000; omega, by show slots + 7 + 0 ≤ 7302250; omega⟩) hS (fun _ _ h => h) (fun _ h => h) (fun r2 M1 t H locs ht9 hvm hw hB hzz hkk hS => ?_)
  obtain ⟨er2, eM1⟩ := prj hw
  clear hw
  have hW : gW E M1 S1 H := by rw [← ht9]; exact hB
  have hP := P_face hI (xs (nI i + 1).toNatClampNeg) (xs (nI i + 2).toNatClampNeg) q1 hq1
  refine lv_icmp_eq (tgt := 1290) hx hb dL_law_608 (by decide) (fun c_1 => ?_) (fun c_1 => ?_)
  · refine kk M1 S1 H locs ?_ hW hS
    rw [eM1, eS1]
    exact hP.2
  · exact absurd (er1.trans (hP.1.trans er2.symm)) c_1
set_option maxHeartbeats 4000000 in
set_option maxRecDepth 100000 in
theorem lc_11 {p : Program} {l : Launch} {e : Env} {s : State} {m : MethodId} {below : List Frame} {meth : Method} {c : Code} {b L : Nat} {xs : Nat → Int32} (C0 : lw_At p s m meth c b L xs) (hts : ∀ w ∈ wsL_law, w.before #[Value.ref b] s = true) {E : gEE} (hE : gE E s) (hbA : ¬ eA E b) (hL : L ≤ 3584) {i : Nat} (hi : i + 7 ≤ L) {cells slots : Nat} (hc1 : cells + 1 ≤ 600000) (hs1 : slots + 7 ≤ 7302250) {M : gSm} {S : gSc} (hI : inv M S) {H : Heap} {locs : List Loc} (hW : gW E M S H) (hS : va_S (eA E) s.heap H locs) {ls : Array Slot} (hl : lv_has ls 4 [(0, .ref b), (1, .ref (eC E 0)), (2, .ref (eM E 0)), (3, .int (nI i))]) (kk : ∀ (M1 : gSm) (S1 : gSc) (H1 : Heap) (locs1 : List Loc), inv M1 S1 → gW E M1 S1 H1 → va_S (eA E) s.heap H1 locs1 → W p l e room_1 s m #[Value.ref b] below meth c H1 locs1 (cells + 1) (slots + 7) (lw_Z below #[Value.ref b] s) (F0 m 1290 ls [])) : W p l e room_1 s m #[Value.ref b] below meth c H locs cells slots (lw_Z below #[Value.ref b] s) (F0 m 613 ls []) := by
  obtain ⟨hx, hb, hr, hml, hown, -, hX, hbl, hlocks, hgv⟩ := C0
  have hown : s.vm.findClass RL = some m.cls := hown
  refine lv_aload_n hx hb dL_law_613 rfl (lv_at hl 1 rfl) ?_
  refine lv_aload_n hx hb dL_law_614 rfl (lv_at hl 0 rfl) ?_
  refine lv_iload_n hx hb dL_law_615 rfl (lv_at hl 3 rfl) ?_
  refine lv_iconst (v := 1) hx hb dL_law_616 (by decide) ?_
  refine lv_iadd hx hb dL_law_617 ?_
  refine va_sld hx hb hX hbl hbA hS (lw_ix1 hi hL) dL_law_618 ?_
  refine lv_aload_n hx hb dL_law_619 rfl (lv_at hl 0 rfl) ?_
  refine lv_iload_n hx hb dL_law_620 rfl (lv_at hl 3 rfl) ?_
  refine lv_iconst (v := 2) hx hb dL_law_621 (by decide) ?_
  refine lv_iadd hx hb dL_law_622 ?_
  refine va_sld hx hb hX hbl hbA hS (lw_ix2 hi hL) dL_law_623 ?_
  refine va_calli (va_runV (As := [.int (xs (nI i + 1).toNatClampNeg), .int (xs (nI i + 2).toNatClampNeg)]) (rest := []) ⟨hx, hb, hml, hown, hts⟩ (c_X10_tilt l E M S (xs (nI i + 1).toNatClampNeg) (xs (nI i + 2).toNatClampNeg) (iv_T hI)) (cwV 2 hts gL_law_X10_tilt rfl rfl rfl (by decide +kernel) ⟨Nat.le_of_ble_eq_true rfl, Nat.le_of_ble_eq_true rfl⟩) (gP.V (ci := 9) (q := (RX10, TX10, 12)) (q0 := 11) hE hS hW rfl rfl) rfl rfl hl.1 rfl (lv_room (Nat.le_of_ble_eq_true rfl)) dL_law_624 ⟨by show cells + 1 ≤ 600000; omega, by show slots + 7 ≤ 7302250; omega⟩) hS (fun _ _ h => h) (fun _ h => h) (fun r1 S1 t H locs ht9 hvm hw hB hzz hkk hS => ?_)
  obtain ⟨q1, hq1, hw⟩ := hw
  obtain ⟨er1, eS1⟩ := prj hw
  clear hw
  refine W.widen (k := cells + 1) (n := slots + 7) (by show cells + 1 ≤ cells + 1; omega) (by show slots + 7 ≤ slots + 7; omega) ?_
  have hW : gW E M S1 H := by rw [← ht9]; exact hB
  refine lv_aload_n hx hb dL_law_627 rfl (lv_at hl 2 rfl) ?_
  refine lv_aload_n hx hb dL_law_628 rfl (lv_at hl 0 rfl) ?_
  refine lv_iload_n hx hb dL_law_629 rfl (lv_at hl 3 rfl) ?_
  refine lv_iconst (v := 1) hx hb dL_law_630 (by decide) ?_
  refine lv_iadd hx hb dL_law_631 ?_
  refine va_sld hx hb hX hbl hbA hS (lw_ix1 hi hL) dL_law_632 ?_
  refine lv_aload_n hx hb dL_law_633 rfl (lv_at hl 0 rfl) ?_
  refine lv_iload_n hx hb dL_law_634 rfl (lv_at hl 3 rfl) ?_
  refine lv_iconst (v := 2) hx hb dL_law_635 (by decide) ?_
  refine lv_iadd hx hb dL_law_636 ?_
  refine va_sld hx hb hX hbl hbA hS (lw_ix2 hi hL) dL_law_637 ?_
  refine va_calli (va_runV (As := [.int (xs (nI i + 1).toNatClampNeg), .int (xs (nI i + 2).toNatClampNeg)]) (rest := [.int r1]) ⟨hx, hb, hml, hown, hts⟩ (c_X11_tilt l E M S1 (xs (nI i + 1).toNatClampNeg) (xs (nI i + 2).toNatClampNeg) (iv_mk0 hI) (iv_mk hI)) (cwV 2 hts gL_law_X11_tilt rfl rfl rfl (by decide +kernel) ⟨Nat.le_of_ble_eq_true rfl, Nat.le_of_ble_eq_true rfl⟩) (gP.V (ci := 10) (q := (RX11, TX11, 23)) (q0 := 0) hE hS hW rfl rfl) rfl rfl hl.1 rfl (lv_room (Nat.le_of_ble_eq_true rfl)) dL_law_638 ⟨by show cells + 1 + 0 ≤ 600000; omega, by show slots + 7 + 0 ≤ 7302250; omega⟩) hS (fun _ _ h => h) (fun _ h => h) (fun r2 M1 t H locs ht9 hvm hw hB hzz hkk hS => ?_)
  obtain ⟨er2, eM1⟩ := prj hw
  clear hw
  have hW : gW E M1 S1 H := by rw [← ht9]; exact hB
  have hP := P_tilt hI (xs (nI i + 1).toNatClampNeg) (xs (nI i + 2).toNatClampNeg) q1 hq1
  refine lv_icmp_eq (tgt := 1290) hx hb dL_law_641 (by decide) (fun c_1 => ?_) (fun c_1 => ?_)
  · refine kk M1 S1 H locs ?_ hW hS
    rw [eM1, eS1]
    exact hP.2
  · exact absurd (er1.trans (hP.1.trans er2.symm)) c_1
set_option maxHeartbeats 4000000 in
set_option maxRecDepth 100000 in
theorem lc_12 {p : Program} {l : Launch} {e : Env} {s : State} {m : MethodId} {below : List Frame} {meth : Method} {c : Code} {b L : Nat} {xs : Nat → Int32} (C0 : lw_At p s m meth c b L xs) (hts : ∀ w ∈ wsL_law, w.before #[Value.ref b] s = true) {E : gEE} (hE : gE E s) (hbA : ¬ eA E b) (hL : L ≤ 3584) {i : Nat} (hi : i + 7 ≤ L) {cells slots : Nat} (hc1 : cells + 1 ≤ 600000) (hs1 : slots + 7 ≤ 7302250) {M : gSm} {S : gSc} (hI : inv M S) {H : Heap} {locs : List Loc} (hW : gW E M S H) (hS : va_S (eA E) s.heap H locs) {ls : Array Slot} (hl : lv_has ls 4 [(0, .ref b), (1, .ref (eC E 0)), (2, .ref (eM E 0)), (3, .int (nI i))]) (kk : ∀ (M1 : gSm) (S1 : gSc) (H1 : Heap) (locs1 : List Loc), inv M1 S1 → gW E M1 S1 H1 → va_S (eA E) s.heap H1 locs1 → W p l e room_1 s m #[Value.ref b] below meth c H1 locs1 (cells + 1) (slots + 7) (lw_Z below #[Value.ref b] s) (F0 m 1290 ls [])) : W p l e room_1 s m #[Value.ref b] below meth c H locs cells slots (lw_Z below #[Value.ref b] s) (F0 m 646 ls []) := by
  obtain ⟨hx, hb, hr, hml, hown, -, hX, hbl, hlocks, hgv⟩ := C0
  have hown : s.vm.findClass RL = some m.cls := hown
  refine lv_aload_n hx hb dL_law_646 rfl (lv_at hl 1 rfl) ?_
  refine lv_aload_n hx hb dL_law_647 rfl (lv_at hl 0 rfl) ?_
  refine lv_iload_n hx hb dL_law_648 rfl (lv_at hl 3 rfl) ?_
  refine lv_iconst (v := 1) hx hb dL_law_649 (by decide) ?_
  refine lv_iadd hx hb dL_law_650 ?_
  refine va_sld hx hb hX hbl hbA hS (lw_ix1 hi hL) dL_law_651 ?_
  refine lv_aload_n hx hb dL_law_652 rfl (lv_at hl 0 rfl) ?_
  refine lv_iload_n hx hb dL_law_653 rfl (lv_at hl 3 rfl) ?_
  refine lv_iconst (v := 2) hx hb dL_law_654 (by decide) ?_
  refine lv_iadd hx hb dL_law_655 ?_
  refine va_sld hx hb hX hbl hbA hS (lw_ix2 hi hL) dL_law_656 ?_
  refine lv_aload_n hx hb dL_law_657 rfl (lv_at hl 0 rfl) ?_
  refine lv_iload_n hx hb dL_law_658 rfl (lv_at hl 3 rfl) ?_
  refine lv_iconst (v := 3) hx hb dL_law_659 (by decide) ?_
  refine lv_iadd hx hb dL_law_660 ?_
  refine va_sld hx hb hX hbl hbA hS (lw_ix3 hi hL) dL_law_661 ?_
  refine va_calli (va_runV (As := [.int (xs (nI i + 1).toNatClampNeg), .int (xs (nI i + 2).toNatClampNeg), .int (xs (nI i + 3).toNatClampNeg)]) (rest := []) ⟨hx, hb, hml, hown, hts⟩ (c_X10_left l E M S (xs (nI i + 1).toNatClampNeg) (xs (nI i + 2).toNatClampNeg) (xs (nI i + 3).toNatClampNeg) (iv_T hI)) (cwV 3 hts gL_law_X10_left rfl rfl rfl (by decide +kernel) ⟨Nat.le_of_ble_eq_true rfl, Nat.le_of_ble_eq_true rfl⟩) (gP.V (ci := 9) (q := (RX10, TX10, 12)) (q0 := 11) hE hS hW rfl rfl) rfl rfl hl.1 rfl (lv_room (Nat.le_of_ble_eq_true rfl)) dL_law_662 ⟨by show cells + 1 ≤ 600000; omega, by show slots + 7 ≤ 7302250; omega⟩) hS (fun _ _ h => h) (fun _ h => h) (fun r1 S1 t H locs ht9 hvm hw hB hzz hkk hS => ?_)
  obtain ⟨q1, hq1, hw⟩ := hw
  obtain ⟨er1, eS1⟩ := prj hw
  clear hw
  refine W.widen (k := cells + 1) (n := slots + 7) (by show cells + 1 ≤ cells + 1; omega) (by show slots + 7 ≤ slots + 7; omega) ?_
  have hW : gW E M S1 H := by rw [← ht9]; exact hB
  refine lv_aload_n hx hb dL_law_665 rfl (lv_at hl 2 rfl) ?_
  refine lv_aload_n hx hb dL_law_666 rfl (lv_at hl 0 rfl) ?_
  refine lv_iload_n hx hb dL_law_667 rfl (lv_at hl 3 rfl) ?_
  refine lv_iconst (v := 1) hx hb dL_law_668 (by decide) ?_
  refine lv_iadd hx hb dL_law_669 ?_
  refine va_sld hx hb hX hbl hbA hS (lw_ix1 hi hL) dL_law_670 ?_
  refine lv_aload_n hx hb dL_law_671 rfl (lv_at hl 0 rfl) ?_
  refine lv_iload_n hx hb dL_law_672 rfl (lv_at hl 3 rfl) ?_
  refine lv_iconst (v := 2) hx hb dL_law_673 (by decide) ?_
  refine lv_iadd hx hb dL_law_674 ?_
  refine va_sld hx hb hX hbl hbA hS (lw_ix2 hi hL) dL_law_675 ?_
  refine lv_aload_n hx hb dL_law_676 rfl (lv_at hl 0 rfl) ?_
  refine lv_iload_n hx hb dL_law_677 rfl (lv_at hl 3 rfl) ?_
  refine lv_iconst (v := 3) hx hb dL_law_678 (by decide) ?_
  refine lv_iadd hx hb dL_law_679 ?_
  refine va_sld hx hb hX hbl hbA hS (lw_ix3 hi hL) dL_law_680 ?_
  refine va_calli (va_runV (As := [.int (xs (nI i + 1).toNatClampNeg), .int (xs (nI i + 2).toNatClampNeg), .int (xs (nI i + 3).toNatClampNeg)]) (rest := [.int r1]) ⟨hx, hb, hml, hown, hts⟩ (c_X11_left l E M S1 (xs (nI i + 1).toNatClampNeg) (xs (nI i + 2).toNatClampNeg) (xs (nI i + 3).toNatClampNeg) (iv_mk0 hI) (iv_mk hI)) (cwV 3 hts gL_law_X11_left rfl rfl rfl (by decide +kernel) ⟨Nat.le_of_ble_eq_true rfl, Nat.le_of_ble_eq_true rfl⟩) (gP.V (ci := 10) (q := (RX11, TX11, 23)) (q0 := 0) hE hS hW rfl rfl) rfl rfl hl.1 rfl (lv_room (Nat.le_of_ble_eq_true rfl)) dL_law_681 ⟨by show cells + 1 + 0 ≤ 600000; omega, by show slots + 7 + 0 ≤ 7302250; omega⟩) hS (fun _ _ h => h) (fun _ h => h) (fun r2 M1 t H locs ht9 hvm hw hB hzz hkk hS => ?_)
  obtain ⟨er2, eM1⟩ := prj hw
  clear hw
  have hW : gW E M1 S1 H := by rw [← ht9]; exact hB
  have hP := P_left hI (xs (nI i + 1).toNatClampNeg) (xs (nI i + 2).toNatClampNeg) (xs (nI i + 3).toNatClampNeg) q1 hq1
  refine lv_icmp_eq (tgt := 1290) hx hb dL_law_684 (by decide) (fun c_1 => ?_) (fun c_1 => ?_)
  · refine kk M1 S1 H locs ?_ hW hS
    rw [eM1, eS1]
    exact hP.2
  · exact absurd (er1.trans (hP.1.trans er2.symm)) c_1
set_option maxHeartbeats 4000000 in
set_option maxRecDepth 100000 in
theorem lc_13 {p : Program} {l : Launch} {e : Env} {s : State} {m : MethodId} {below : List Frame} {meth : Method} {c : Code} {b L : Nat} {xs : Nat → Int32} (C0 : lw_At p s m meth c b L xs) (hts : ∀ w ∈ wsL_law, w.before #[Value.ref b] s = true) {E : gEE} (hE : gE E s) (hbA : ¬ eA E b) (hL : L ≤ 3584) {i : Nat} (hi : i + 7 ≤ L) {cells slots : Nat} (hc1 : cells + 1 ≤ 600000) (hs1 : slots + 7 ≤ 7302250) {M : gSm} {S : gSc} (hI : inv M S) {H : Heap} {locs : List Loc} (hW : gW E M S H) (hS : va_S (eA E) s.heap H locs) {ls : Array Slot} (hl : lv_has ls 4 [(0, .ref b), (1, .ref (eC E 0)), (2, .ref (eM E 0)), (3, .int (nI i))]) (kk : ∀ (M1 : gSm) (S1 : gSc) (H1 : Heap) (locs1 : List Loc), inv M1 S1 → gW E M1 S1 H1 → va_S (eA E) s.heap H1 locs1 → W p l e room_1 s m #[Value.ref b] below meth c H1 locs1 (cells + 1) (slots + 7) (lw_Z below #[Value.ref b] s) (F0 m 1290 ls [])) : W p l e room_1 s m #[Value.ref b] below meth c H locs cells slots (lw_Z below #[Value.ref b] s) (F0 m 689 ls []) := by
  obtain ⟨hx, hb, hr, hml, hown, -, hX, hbl, hlocks, hgv⟩ := C0
  have hown : s.vm.findClass RL = some m.cls := hown
  refine lv_aload_n hx hb dL_law_689 rfl (lv_at hl 1 rfl) ?_
  refine lv_aload_n hx hb dL_law_690 rfl (lv_at hl 0 rfl) ?_
  refine lv_iload_n hx hb dL_law_691 rfl (lv_at hl 3 rfl) ?_
  refine lv_iconst (v := 1) hx hb dL_law_692 (by decide) ?_
  refine lv_iadd hx hb dL_law_693 ?_
  refine va_sld hx hb hX hbl hbA hS (lw_ix1 hi hL) dL_law_694 ?_
  refine k_Si (va_runV (As := [.int (xs (nI i + 1).toNatClampNeg)]) (rest := []) ⟨hx, hb, hml, hown, hts⟩ (c_X10_holds l E M S (xs (nI i + 1).toNatClampNeg) (iv_T hI)) (cwV 1 hts gL_law_X10_holds rfl rfl rfl (by decide +kernel) ⟨Nat.le_of_ble_eq_true rfl, Nat.le_of_ble_eq_true rfl⟩) (gP.V (ci := 9) (q := (RX10, TX10, 12)) (q0 := 11) hE hS hW rfl rfl) rfl rfl hl.1 rfl (lv_room (Nat.le_of_ble_eq_true rfl)) dL_law_695 ⟨by show cells + 0 ≤ 600000; omega, by show slots + 0 ≤ 7302250; omega⟩) (fun r1 er1 => ?_)
  refine lv_aload_n hx hb dL_law_698 rfl (lv_at hl 2 rfl) ?_
  refine lv_aload_n hx hb dL_law_699 rfl (lv_at hl 0 rfl) ?_
  refine lv_iload_n hx hb dL_law_700 rfl (lv_at hl 3 rfl) ?_
  refine lv_iconst (v := 1) hx hb dL_law_701 (by decide) ?_
  refine lv_iadd hx hb dL_law_702 ?_
  refine va_sld hx hb hX hbl hbA hS (lw_ix1 hi hL) dL_law_703 ?_
  refine k_Si (va_runV (As := [.int (xs (nI i + 1).toNatClampNeg)]) (rest := [.int r1]) ⟨hx, hb, hml, hown, hts⟩ (c_X11_holds l E M S (xs (nI i + 1).toNatClampNeg) ) (cwV 1 hts gL_law_X11_holds rfl rfl rfl (by decide +kernel) ⟨Nat.le_of_ble_eq_true rfl, Nat.le_of_ble_eq_true rfl⟩) (gP.V (ci := 10) (q := (RX11, TX11, 23)) (q0 := 0) hE hS hW rfl rfl) rfl rfl hl.1 rfl (lv_room (Nat.le_of_ble_eq_true rfl)) dL_law_704 ⟨by show cells + 0 ≤ 600000; omega, by show slots + 0 ≤ 7302250; omega⟩) (fun r2 er2 => ?_)
  have hP := P_holds hI (xs (nI i + 1).toNatClampNeg)
  refine lv_icmp_eq (tgt := 1290) hx hb dL_law_707 (by decide) (fun c_1 => ?_) (fun c_1 => ?_)
  · exact W.widen (k := cells + 1) (n := slots + 7) (Nat.le_add_right _ _) (Nat.le_add_right _ _) (kk M S H locs hI hW hS)
  · exact absurd (er1.trans (hP.trans er2.symm)) c_1
set_option maxHeartbeats 4000000 in
set_option maxRecDepth 100000 in
theorem lc_14 {p : Program} {l : Launch} {e : Env} {s : State} {m : MethodId} {below : List Frame} {meth : Method} {c : Code} {b L : Nat} {xs : Nat → Int32} (C0 : lw_At p s m meth c b L xs) (hts : ∀ w ∈ wsL_law, w.before #[Value.ref b] s = true) {E : gEE} (hE : gE E s) (hbA : ¬ eA E b) (hL : L ≤ 3584) {i : Nat} (hi : i + 7 ≤ L) {cells slots : Nat} (hc1 : cells + 1 ≤ 600000) (hs1 : slots + 7 ≤ 7302250) {M : gSm} {S : gSc} (hI : inv M S) {H : Heap} {locs : List Loc} (hW : gW E M S H) (hS : va_S (eA E) s.heap H locs) {ls : Array Slot} (hl : lv_has ls 4 [(0, .ref b), (1, .ref (eC E 0)), (2, .ref (eM E 0)), (3, .int (nI i))]) (kk : ∀ (M1 : gSm) (S1 : gSc) (H1 : Heap) (locs1 : List Loc), inv M1 S1 → gW E M1 S1 H1 → va_S (eA E) s.heap H1 locs1 → W p l e room_1 s m #[Value.ref b] below meth c H1 locs1 (cells + 1) (slots + 7) (lw_Z below #[Value.ref b] s) (F0 m 1290 ls [])) : W p l e room_1 s m #[Value.ref b] below meth c H locs cells slots (lw_Z below #[Value.ref b] s) (F0 m 712 ls []) := by
  obtain ⟨hx, hb, hr, hml, hown, -, hX, hbl, hlocks, hgv⟩ := C0
  have hown : s.vm.findClass RL = some m.cls := hown
  refine lv_aload_n hx hb dL_law_712 rfl (lv_at hl 1 rfl) ?_
  refine lv_aload_n hx hb dL_law_713 rfl (lv_at hl 0 rfl) ?_
  refine lv_iload_n hx hb dL_law_714 rfl (lv_at hl 3 rfl) ?_
  refine lv_iconst (v := 1) hx hb dL_law_715 (by decide) ?_
  refine lv_iadd hx hb dL_law_716 ?_
  refine va_sld hx hb hX hbl hbA hS (lw_ix1 hi hL) dL_law_717 ?_
  refine lv_aload_n hx hb dL_law_718 rfl (lv_at hl 0 rfl) ?_
  refine lv_iload_n hx hb dL_law_719 rfl (lv_at hl 3 rfl) ?_
  refine lv_iconst (v := 2) hx hb dL_law_720 (by decide) ?_
  refine lv_iadd hx hb dL_law_721 ?_
  refine va_sld hx hb hX hbl hbA hS (lw_ix2 hi hL) dL_law_722 ?_
  refine k_Si (va_runV (As := [.int (xs (nI i + 1).toNatClampNeg), .int (xs (nI i + 2).toNatClampNeg)]) (rest := []) ⟨hx, hb, hml, hown, hts⟩ (c_X10_isOf l E M S (xs (nI i + 1).toNatClampNeg) (xs (nI i + 2).toNatClampNeg) (iv_T hI)) (cwV 2 hts gL_law_X10_isOf rfl rfl rfl (by decide +kernel) ⟨Nat.le_of_ble_eq_true rfl, Nat.le_of_ble_eq_true rfl⟩) (gP.V (ci := 9) (q := (RX10, TX10, 12)) (q0 := 11) hE hS hW rfl rfl) rfl rfl hl.1 rfl (lv_room (Nat.le_of_ble_eq_true rfl)) dL_law_723 ⟨by show cells + 0 ≤ 600000; omega, by show slots + 0 ≤ 7302250; omega⟩) (fun r1 er1 => ?_)
  refine lv_aload_n hx hb dL_law_726 rfl (lv_at hl 2 rfl) ?_
  refine lv_aload_n hx hb dL_law_727 rfl (lv_at hl 0 rfl) ?_
  refine lv_iload_n hx hb dL_law_728 rfl (lv_at hl 3 rfl) ?_
  refine lv_iconst (v := 1) hx hb dL_law_729 (by decide) ?_
  refine lv_iadd hx hb dL_law_730 ?_
  refine va_sld hx hb hX hbl hbA hS (lw_ix1 hi hL) dL_law_731 ?_
  refine lv_aload_n hx hb dL_law_732 rfl (lv_at hl 0 rfl) ?_
  refine lv_iload_n hx hb dL_law_733 rfl (lv_at hl 3 rfl) ?_
  refine lv_iconst (v := 2) hx hb dL_law_734 (by decide) ?_
  refine lv_iadd hx hb dL_law_735 ?_
  refine va_sld hx hb hX hbl hbA hS (lw_ix2 hi hL) dL_law_736 ?_
  refine k_Si (va_runV (As := [.int (xs (nI i + 1).toNatClampNeg), .int (xs (nI i + 2).toNatClampNeg)]) (rest := [.int r1]) ⟨hx, hb, hml, hown, hts⟩ (c_X11_isOf l E M S (xs (nI i + 1).toNatClampNeg) (xs (nI i + 2).toNatClampNeg) ) (cwV 2 hts gL_law_X11_isOf rfl rfl rfl (by decide +kernel) ⟨Nat.le_of_ble_eq_true rfl, Nat.le_of_ble_eq_true rfl⟩) (gP.V (ci := 10) (q := (RX11, TX11, 23)) (q0 := 0) hE hS hW rfl rfl) rfl rfl hl.1 rfl (lv_room (Nat.le_of_ble_eq_true rfl)) dL_law_737 ⟨by show cells + 0 ≤ 600000; omega, by show slots + 0 ≤ 7302250; omega⟩) (fun r2 er2 => ?_)
  have hP := P_isOf hI (xs (nI i + 1).toNatClampNeg) (xs (nI i + 2).toNatClampNeg)
  refine lv_icmp_eq (tgt := 1290) hx hb dL_law_740 (by decide) (fun c_1 => ?_) (fun c_1 => ?_)
  · exact W.widen (k := cells + 1) (n := slots + 7) (Nat.le_add_right _ _) (Nat.le_add_right _ _) (kk M S H locs hI hW hS)
  · exact absurd (er1.trans (hP.trans er2.symm)) c_1
set_option maxHeartbeats 4000000 in
set_option maxRecDepth 100000 in
theorem lc_15 {p : Program} {l : Launch} {e : Env} {s : State} {m : MethodId} {below : List Frame} {meth : Method} {c : Code} {b L : Nat} {xs : Nat → Int32} (C0 : lw_At p s m meth c b L xs) (hts : ∀ w ∈ wsL_law, w.before #[Value.ref b] s = true) {E : gEE} (hE : gE E s) (hbA : ¬ eA E b) (hL : L ≤ 3584) {i : Nat} (hi : i + 7 ≤ L) {cells slots : Nat} (hc1 : cells + 1 ≤ 600000) (hs1 : slots + 7 ≤ 7302250) {M : gSm} {S : gSc} (hI : inv M S) {H : Heap} {locs : List Loc} (hW : gW E M S H) (hS : va_S (eA E) s.heap H locs) {ls : Array Slot} (hl : lv_has ls 4 [(0, .ref b), (1, .ref (eC E 0)), (2, .ref (eM E 0)), (3, .int (nI i))]) (kk : ∀ (M1 : gSm) (S1 : gSc) (H1 : Heap) (locs1 : List Loc), inv M1 S1 → gW E M1 S1 H1 → va_S (eA E) s.heap H1 locs1 → W p l e room_1 s m #[Value.ref b] below meth c H1 locs1 (cells + 1) (slots + 7) (lw_Z below #[Value.ref b] s) (F0 m 1290 ls [])) : W p l e room_1 s m #[Value.ref b] below meth c H locs cells slots (lw_Z below #[Value.ref b] s) (F0 m 745 ls []) := by
  obtain ⟨hx, hb, hr, hml, hown, -, hX, hbl, hlocks, hgv⟩ := C0
  have hown : s.vm.findClass RL = some m.cls := hown
  refine lv_aload_n hx hb dL_law_745 rfl (lv_at hl 1 rfl) ?_
  refine lv_aload_n hx hb dL_law_746 rfl (lv_at hl 0 rfl) ?_
  refine lv_iload_n hx hb dL_law_747 rfl (lv_at hl 3 rfl) ?_
  refine lv_iconst (v := 1) hx hb dL_law_748 (by decide) ?_
  refine lv_iadd hx hb dL_law_749 ?_
  refine va_sld hx hb hX hbl hbA hS (lw_ix1 hi hL) dL_law_750 ?_
  refine lv_aload_n hx hb dL_law_751 rfl (lv_at hl 0 rfl) ?_
  refine lv_iload_n hx hb dL_law_752 rfl (lv_at hl 3 rfl) ?_
  refine lv_iconst (v := 2) hx hb dL_law_753 (by decide) ?_
  refine lv_iadd hx hb dL_law_754 ?_
  refine va_sld hx hb hX hbl hbA hS (lw_ix2 hi hL) dL_law_755 ?_
  refine k_Si (va_runV (As := [.int (xs (nI i + 1).toNatClampNeg), .int (xs (nI i + 2).toNatClampNeg)]) (rest := []) ⟨hx, hb, hml, hown, hts⟩ (c_X10_about l E M S (xs (nI i + 1).toNatClampNeg) (xs (nI i + 2).toNatClampNeg) (iv_T hI)) (cwV 2 hts gL_law_X10_about rfl rfl rfl (by decide +kernel) ⟨Nat.le_of_ble_eq_true rfl, Nat.le_of_ble_eq_true rfl⟩) (gP.V (ci := 9) (q := (RX10, TX10, 12)) (q0 := 11) hE hS hW rfl rfl) rfl rfl hl.1 rfl (lv_room (Nat.le_of_ble_eq_true rfl)) dL_law_756 ⟨by show cells + 0 ≤ 600000; omega, by show slots + 0 ≤ 7302250; omega⟩) (fun r1 er1 => ?_)
  refine lv_aload_n hx hb dL_law_759 rfl (lv_at hl 2 rfl) ?_
  refine lv_aload_n hx hb dL_law_760 rfl (lv_at hl 0 rfl) ?_
  refine lv_iload_n hx hb dL_law_761 rfl (lv_at hl 3 rfl) ?_
  refine lv_iconst (v := 1) hx hb dL_law_762 (by decide) ?_
  refine lv_iadd hx hb dL_law_763 ?_
  refine va_sld hx hb hX hbl hbA hS (lw_ix1 hi hL) dL_law_764 ?_
  refine lv_aload_n hx hb dL_law_765 rfl (lv_at hl 0 rfl) ?_
  refine lv_iload_n hx hb dL_law_766 rfl (lv_at hl 3 rfl) ?_
  refine lv_iconst (v := 2) hx hb dL_law_767 (by decide) ?_
  refine lv_iadd hx hb dL_law_768 ?_
  refine va_sld hx hb hX hbl hbA hS (lw_ix2 hi hL) dL_law_769 ?_
  refine k_Si (va_runV (As := [.int (xs (nI i + 1).toNatClampNeg), .int (xs (nI i + 2).toNatClampNeg)]) (rest := [.int r1]) ⟨hx, hb, hml, hown, hts⟩ (c_X11_about l E M S (xs (nI i + 1).toNatClampNeg) (xs (nI i + 2).toNatClampNeg) ) (cwV 2 hts gL_law_X11_about rfl rfl rfl (by decide +kernel) ⟨Nat.le_of_ble_eq_true rfl, Nat.le_of_ble_eq_true rfl⟩) (gP.V (ci := 10) (q := (RX11, TX11, 23)) (q0 := 0) hE hS hW rfl rfl) rfl rfl hl.1 rfl (lv_room (Nat.le_of_ble_eq_true rfl)) dL_law_770 ⟨by show cells + 0 ≤ 600000; omega, by show slots + 0 ≤ 7302250; omega⟩) (fun r2 er2 => ?_)
  have hP := P_about hI (xs (nI i + 1).toNatClampNeg) (xs (nI i + 2).toNatClampNeg)
  refine lv_icmp_eq (tgt := 1290) hx hb dL_law_773 (by decide) (fun c_1 => ?_) (fun c_1 => ?_)
  · exact W.widen (k := cells + 1) (n := slots + 7) (Nat.le_add_right _ _) (Nat.le_add_right _ _) (kk M S H locs hI hW hS)
  · exact absurd (er1.trans (hP.trans er2.symm)) c_1
set_option maxHeartbeats 4000000 in
set_option maxRecDepth 100000 in
theorem lc_16 {p : Program} {l : Launch} {e : Env} {s : State} {m : MethodId} {below : List Frame} {meth : Method} {c : Code} {b L : Nat} {xs : Nat → Int32} (C0 : lw_At p s m meth c b L xs) (hts : ∀ w ∈ wsL_law, w.before #[Value.ref b] s = true) {E : gEE} (hE : gE E s) (hbA : ¬ eA E b) (hL : L ≤ 3584) {i : Nat} (hi : i + 7 ≤ L) {cells slots : Nat} (hc1 : cells + 1 ≤ 600000) (hs1 : slots + 7 ≤ 7302250) {M : gSm} {S : gSc} (hI : inv M S) {H : Heap} {locs : List Loc} (hW : gW E M S H) (hS : va_S (eA E) s.heap H locs) {ls : Array Slot} (hl : lv_has ls 4 [(0, .ref b), (1, .ref (eC E 0)), (2, .ref (eM E 0)), (3, .int (nI i))]) (kk : ∀ (M1 : gSm) (S1 : gSc) (H1 : Heap) (locs1 : List Loc), inv M1 S1 → gW E M1 S1 H1 → va_S (eA E) s.heap H1 locs1 → W p l e room_1 s m #[Value.ref b] below meth c H1 locs1 (cells + 1) (slots + 7) (lw_Z below #[Value.ref b] s) (F0 m 1290 ls [])) : W p l e room_1 s m #[Value.ref b] below meth c H locs cells slots (lw_Z below #[Value.ref b] s) (F0 m 778 ls []) := by
  obtain ⟨hx, hb, hr, hml, hown, -, hX, hbl, hlocks, hgv⟩ := C0
  have hown : s.vm.findClass RL = some m.cls := hown
  refine lv_aload_n hx hb dL_law_778 rfl (lv_at hl 1 rfl) ?_
  refine va_calli (va_runV (As := []) (rest := []) ⟨hx, hb, hml, hown, hts⟩ (c_X10_undo l E M S  (iv_l0 hI) (iv_l1 hI) (iv_cp hI) (iv_C hI)) (cwV 0 hts gL_law_X10_undo rfl rfl rfl (by decide +kernel) ⟨Nat.le_of_ble_eq_true rfl, Nat.le_of_ble_eq_true rfl⟩) (gP.V (ci := 9) (q := (RX10, TX10, 12)) (q0 := 11) hE hS hW rfl rfl) rfl rfl hl.1 rfl (lv_room (Nat.le_of_ble_eq_true rfl)) dL_law_779 ⟨by show cells + 0 ≤ 600000; omega, by show slots + 0 ≤ 7302250; omega⟩) hS (fun _ _ h => h) (fun _ h => h) (fun r1 S1 t H locs ht9 hvm hw hB hzz hkk hS => ?_)
  obtain ⟨er1, eS1⟩ := prj hw
  clear hw
  refine W.widen (k := cells + 1) (n := slots + 7) (by show cells + 0 ≤ cells + 1; omega) (by show slots + 0 ≤ slots + 7; omega) ?_
  have hW : gW E M S1 H := by rw [← ht9]; exact hB
  refine lv_aload_n hx hb dL_law_782 rfl (lv_at hl 2 rfl) ?_
  refine va_calli (va_runV (As := []) (rest := [.int r1]) ⟨hx, hb, hml, hown, hts⟩ (c_X11_undo l E M S1  (iv_mk0 hI) (iv_mk hI) (iv_mkp hI)) (cwV 0 hts gL_law_X11_undo rfl rfl rfl (by decide +kernel) ⟨Nat.le_of_ble_eq_true rfl, Nat.le_of_ble_eq_true rfl⟩) (gP.V (ci := 10) (q := (RX11, TX11, 23)) (q0 := 0) hE hS hW rfl rfl) rfl rfl hl.1 rfl (lv_room (Nat.le_of_ble_eq_true rfl)) dL_law_783 ⟨by show cells + 1 + 0 ≤ 600000; omega, by show slots + 7 + 0 ≤ 7302250; omega⟩) hS (fun _ _ h => h) (fun _ h => h) (fun r2 M1 t H locs ht9 hvm hw hB hzz hkk hS => ?_)
  obtain ⟨er2, eM1⟩ := prj hw
  clear hw
  have hW : gW E M1 S1 H := by rw [← ht9]; exact hB
  have hP := P_undo hI 
  refine lv_icmp_eq (tgt := 1290) hx hb dL_law_786 (by decide) (fun c_1 => ?_) (fun c_1 => ?_)
  · refine kk M1 S1 H locs ?_ hW hS
    rw [eM1, eS1]
    exact hP.2
  · exact absurd (er1.trans (hP.1.trans er2.symm)) c_1
