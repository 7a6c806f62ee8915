set_option maxHeartbeats 4000000 in
set_option maxRecDepth 100000 in
theorem lc_17 {p : Program} {l : Launch} {e : Env} {s : State} {m : MethodId} {below : List Frame} {meth : Method} {c : Code} {b L : Nat} {xs : Nat → Int32} (C0 : lw_At p s m meth c b L xs) (hts : ∀ w ∈ wsL_law, w.before #[Value.ref b] s = true) {E : gEE} (hE : gE E s) (hbA : ¬ eA E b) (hL : L ≤ 3584) {i : Nat} (hi : i + 7 ≤ L) {cells slots : Nat} (hc1 : cells + 1 ≤ 600000) (hs1 : slots + 7 ≤ 7302250) {M : gSm} {S : gSc} (hI : inv M S) {H : Heap} {locs : List Loc} (hW : gW E M S H) (hS : va_S (eA E) s.heap H locs) {ls : Array Slot} (hl : lv_has ls 4 [(0, .ref b), (1, .ref (eC E 0)), (2, .ref (eM E 0)), (3, .int (nI i))]) (kk : ∀ (M1 : gSm) (S1 : gSc) (H1 : Heap) (locs1 : List Loc), inv M1 S1 → gW E M1 S1 H1 → va_S (eA E) s.heap H1 locs1 → W p l e room_1 s m #[Value.ref b] below meth c H1 locs1 (cells + 1) (slots + 7) (lw_Z below #[Value.ref b] s) (F0 m 1290 ls [])) : W p l e room_1 s m #[Value.ref b] below meth c H locs cells slots (lw_Z below #[Value.ref b] s) (F0 m 791 ls []) := by
  obtain ⟨hx, hb, hr, hml, hown, -, hX, hbl, hlocks, hgv⟩ := C0
  have hown : s.vm.findClass RL = some m.cls := hown
  refine lv_aload_n hx hb dL_law_791 rfl (lv_at hl 1 rfl) ?_
  refine lv_aload_n hx hb dL_law_792 rfl (lv_at hl 0 rfl) ?_
  refine lv_iload_n hx hb dL_law_793 rfl (lv_at hl 3 rfl) ?_
  refine lv_iconst (v := 1) hx hb dL_law_794 (by decide) ?_
  refine lv_iadd hx hb dL_law_795 ?_
  refine va_sld hx hb hX hbl hbA hS (lw_ix1 hi hL) dL_law_796 ?_
  refine lv_aload_n hx hb dL_law_797 rfl (lv_at hl 0 rfl) ?_
  refine lv_iload_n hx hb dL_law_798 rfl (lv_at hl 3 rfl) ?_
  refine lv_iconst (v := 2) hx hb dL_law_799 (by decide) ?_
  refine lv_iadd hx hb dL_law_800 ?_
  refine va_sld hx hb hX hbl hbA hS (lw_ix2 hi hL) dL_law_801 ?_
  refine lv_aload_n hx hb dL_law_802 rfl (lv_at hl 0 rfl) ?_
  refine lv_iload_n hx hb dL_law_803 rfl (lv_at hl 3 rfl) ?_
  refine lv_iconst (v := 3) hx hb dL_law_804 (by decide) ?_
  refine lv_iadd hx hb dL_law_805 ?_
  refine va_sld hx hb hX hbl hbA hS (lw_ix3 hi hL) dL_law_806 ?_
  refine va_calli (va_runV (As := [.int (xs (nI i + 1).toNatClampNeg), .int (xs (nI i + 2).toNatClampNeg), .int (xs (nI i + 3).toNatClampNeg)]) (rest := []) ⟨hx, hb, hml, hown, hts⟩ (c_X10_state l E M S (xs (nI i + 1).toNatClampNeg) (xs (nI i + 2).toNatClampNeg) (xs (nI i + 3).toNatClampNeg) (iv_T hI) (iv_H hI) (iv_kn0 hI) (iv_kn hI)) (cwV 3 hts gL_law_X10_state rfl rfl rfl (by decide +kernel) ⟨Nat.le_of_ble_eq_true rfl, Nat.le_of_ble_eq_true rfl⟩) (gP.V (ci := 9) (q := (RX10, TX10, 12)) (q0 := 11) hE hS hW rfl rfl) rfl rfl hl.1 rfl (lv_room (Nat.le_of_ble_eq_true rfl)) dL_law_807 ⟨by show cells + 0 ≤ 600000; omega, by show slots + 0 ≤ 7302250; omega⟩) hS (fun _ _ h => h) (fun _ h => h) (fun r1 S1 t H locs ht9 hvm hw hB hzz hkk hS => ?_)
  obtain ⟨er1, eS1⟩ := prj hw
  clear hw
  refine W.widen (k := cells + 1) (n := slots + 7) (by show cells + 0 ≤ cells + 1; omega) (by show slots + 0 ≤ slots + 7; omega) ?_
  have hW : gW E M S1 H := by rw [← ht9]; exact hB
  refine lv_aload_n hx hb dL_law_810 rfl (lv_at hl 2 rfl) ?_
  refine lv_aload_n hx hb dL_law_811 rfl (lv_at hl 0 rfl) ?_
  refine lv_iload_n hx hb dL_law_812 rfl (lv_at hl 3 rfl) ?_
  refine lv_iconst (v := 1) hx hb dL_law_813 (by decide) ?_
  refine lv_iadd hx hb dL_law_814 ?_
  refine va_sld hx hb hX hbl hbA hS (lw_ix1 hi hL) dL_law_815 ?_
  refine lv_aload_n hx hb dL_law_816 rfl (lv_at hl 0 rfl) ?_
  refine lv_iload_n hx hb dL_law_817 rfl (lv_at hl 3 rfl) ?_
  refine lv_iconst (v := 2) hx hb dL_law_818 (by decide) ?_
  refine lv_iadd hx hb dL_law_819 ?_
  refine va_sld hx hb hX hbl hbA hS (lw_ix2 hi hL) dL_law_820 ?_
  refine lv_aload_n hx hb dL_law_821 rfl (lv_at hl 0 rfl) ?_
  refine lv_iload_n hx hb dL_law_822 rfl (lv_at hl 3 rfl) ?_
  refine lv_iconst (v := 3) hx hb dL_law_823 (by decide) ?_
  refine lv_iadd hx hb dL_law_824 ?_
  refine va_sld hx hb hX hbl hbA hS (lw_ix3 hi hL) dL_law_825 ?_
  refine va_calli (va_runV (As := [.int (xs (nI i + 1).toNatClampNeg), .int (xs (nI i + 2).toNatClampNeg), .int (xs (nI i + 3).toNatClampNeg)]) (rest := [.int r1]) ⟨hx, hb, hml, hown, hts⟩ (c_X11_state l E M S1 (xs (nI i + 1).toNatClampNeg) (xs (nI i + 2).toNatClampNeg) (xs (nI i + 3).toNatClampNeg) (iv_mc hI)) (cwV 3 hts gL_law_X11_state rfl rfl rfl (by decide +kernel) ⟨Nat.le_of_ble_eq_true rfl, Nat.le_of_ble_eq_true rfl⟩) (gP.V (ci := 10) (q := (RX11, TX11, 23)) (q0 := 0) hE hS hW rfl rfl) rfl rfl hl.1 rfl (lv_room (Nat.le_of_ble_eq_true rfl)) dL_law_826 ⟨by show cells + 1 + 0 ≤ 600000; omega, by show slots + 7 + 0 ≤ 7302250; omega⟩) hS (fun _ _ h => h) (fun _ h => h) (fun r2 M1 t H locs ht9 hvm hw hB hzz hkk hS => ?_)
  obtain ⟨er2, eM1⟩ := prj hw
  clear hw
  have hW : gW E M1 S1 H := by rw [← ht9]; exact hB
  have hP := P_state hI (xs (nI i + 1).toNatClampNeg) (xs (nI i + 2).toNatClampNeg) (xs (nI i + 3).toNatClampNeg)
  refine lv_icmp_eq (tgt := 1290) hx hb dL_law_829 (by decide) (fun c_1 => ?_) (fun c_1 => ?_)
  · refine kk M1 S1 H locs ?_ hW hS
    rw [eM1, eS1]
    exact hP.2
  · exact absurd (er1.trans (hP.1.trans er2.symm)) c_1
set_option maxHeartbeats 4000000 in
set_option maxRecDepth 100000 in
theorem lc_18 {p : Program} {l : Launch} {e : Env} {s : State} {m : MethodId} {below : List Frame} {meth : Method} {c : Code} {b L : Nat} {xs : Nat → Int32} (C0 : lw_At p s m meth c b L xs) (hts : ∀ w ∈ wsL_law, w.before #[Value.ref b] s = true) {E : gEE} (hE : gE E s) (hbA : ¬ eA E b) (hL : L ≤ 3584) {i : Nat} (hi : i + 7 ≤ L) {cells slots : Nat} (hc1 : cells + 1 ≤ 600000) (hs1 : slots + 7 ≤ 7302250) {M : gSm} {S : gSc} (hI : inv M S) {H : Heap} {locs : List Loc} (hW : gW E M S H) (hS : va_S (eA E) s.heap H locs) {ls : Array Slot} (hl : lv_has ls 4 [(0, .ref b), (1, .ref (eC E 0)), (2, .ref (eM E 0)), (3, .int (nI i))]) (kk : ∀ (M1 : gSm) (S1 : gSc) (H1 : Heap) (locs1 : List Loc), inv M1 S1 → gW E M1 S1 H1 → va_S (eA E) s.heap H1 locs1 → W p l e room_1 s m #[Value.ref b] below meth c H1 locs1 (cells + 1) (slots + 7) (lw_Z below #[Value.ref b] s) (F0 m 1290 ls [])) : W p l e room_1 s m #[Value.ref b] below meth c H locs cells slots (lw_Z below #[Value.ref b] s) (F0 m 834 ls []) := by
  obtain ⟨hx, hb, hr, hml, hown, -, hX, hbl, hlocks, hgv⟩ := C0
  have hown : s.vm.findClass RL = some m.cls := hown
  refine lv_aload_n hx hb dL_law_834 rfl (lv_at hl 1 rfl) ?_
  refine lv_aload_n hx hb dL_law_835 rfl (lv_at hl 0 rfl) ?_
  refine lv_iload_n hx hb dL_law_836 rfl (lv_at hl 3 rfl) ?_
  refine lv_iconst (v := 1) hx hb dL_law_837 (by decide) ?_
  refine lv_iadd hx hb dL_law_838 ?_
  refine va_sld hx hb hX hbl hbA hS (lw_ix1 hi hL) dL_law_839 ?_
  refine lv_aload_n hx hb dL_law_840 rfl (lv_at hl 0 rfl) ?_
  refine lv_iload_n hx hb dL_law_841 rfl (lv_at hl 3 rfl) ?_
  refine lv_iconst (v := 2) hx hb dL_law_842 (by decide) ?_
  refine lv_iadd hx hb dL_law_843 ?_
  refine va_sld hx hb hX hbl hbA hS (lw_ix2 hi hL) dL_law_844 ?_
  refine lv_aload_n hx hb dL_law_845 rfl (lv_at hl 0 rfl) ?_
  refine lv_iload_n hx hb dL_law_846 rfl (lv_at hl 3 rfl) ?_
  refine lv_iconst (v := 3) hx hb dL_law_847 (by decide) ?_
  refine lv_iadd hx hb dL_law_848 ?_
  refine va_sld hx hb hX hbl hbA hS (lw_ix3 hi hL) dL_law_849 ?_
  refine va_calli (va_runV (As := [.int (xs (nI i + 1).toNatClampNeg), .int (xs (nI i + 2).toNatClampNeg), .int (xs (nI i + 3).toNatClampNeg)]) (rest := []) ⟨hx, hb, hml, hown, hts⟩ (c_X10_hides l E M S (xs (nI i + 1).toNatClampNeg) (xs (nI i + 2).toNatClampNeg) (xs (nI i + 3).toNatClampNeg) (iv_T hI) (iv_H hI) (iv_kn0 hI) (iv_kn hI)) (cwV 3 hts gL_law_X10_hides rfl rfl rfl (by decide +kernel) ⟨Nat.le_of_ble_eq_true rfl, Nat.le_of_ble_eq_true rfl⟩) (gP.V (ci := 9) (q := (RX10, TX10, 12)) (q0 := 11) hE hS hW rfl rfl) rfl rfl hl.1 rfl (lv_room (Nat.le_of_ble_eq_true rfl)) dL_law_850 ⟨by show cells + 0 ≤ 600000; omega, by show slots + 0 ≤ 7302250; omega⟩) hS (fun _ _ h => h) (fun _ h => h) (fun r1 S1 t H locs ht9 hvm hw hB hzz hkk hS => ?_)
  obtain ⟨er1, eS1⟩ := prj hw
  clear hw
  refine W.widen (k := cells + 1) (n := slots + 7) (by show cells + 0 ≤ cells + 1; omega) (by show slots + 0 ≤ slots + 7; omega) ?_
  have hW : gW E M S1 H := by rw [← ht9]; exact hB
  refine lv_aload_n hx hb dL_law_853 rfl (lv_at hl 2 rfl) ?_
  refine lv_aload_n hx hb dL_law_854 rfl (lv_at hl 0 rfl) ?_
  refine lv_iload_n hx hb dL_law_855 rfl (lv_at hl 3 rfl) ?_
  refine lv_iconst (v := 1) hx hb dL_law_856 (by decide) ?_
  refine lv_iadd hx hb dL_law_857 ?_
  refine va_sld hx hb hX hbl hbA hS (lw_ix1 hi hL) dL_law_858 ?_
  refine lv_aload_n hx hb dL_law_859 rfl (lv_at hl 0 rfl) ?_
  refine lv_iload_n hx hb dL_law_860 rfl (lv_at hl 3 rfl) ?_
  refine lv_iconst (v := 2) hx hb dL_law_861 (by decide) ?_
  refine lv_iadd hx hb dL_law_862 ?_
  refine va_sld hx hb hX hbl hbA hS (lw_ix2 hi hL) dL_law_863 ?_
  refine lv_aload_n hx hb dL_law_864 rfl (lv_at hl 0 rfl) ?_
  refine lv_iload_n hx hb dL_law_865 rfl (lv_at hl 3 rfl) ?_
  refine lv_iconst (v := 3) hx hb dL_law_866 (by decide) ?_
  refine lv_iadd hx hb dL_law_867 ?_
  refine va_sld hx hb hX hbl hbA hS (lw_ix3 hi hL) dL_law_868 ?_
  refine va_calli (va_runV (As := [.int (xs (nI i + 1).toNatClampNeg), .int (xs (nI i + 2).toNatClampNeg), .int (xs (nI i + 3).toNatClampNeg)]) (rest := [.int r1]) ⟨hx, hb, hml, hown, hts⟩ (c_X11_hides l E M S1 (xs (nI i + 1).toNatClampNeg) (xs (nI i + 2).toNatClampNeg) (xs (nI i + 3).toNatClampNeg) (iv_mc hI)) (cwV 3 hts gL_law_X11_hides rfl rfl rfl (by decide +kernel) ⟨Nat.le_of_ble_eq_true rfl, Nat.le_of_ble_eq_true rfl⟩) (gP.V (ci := 10) (q := (RX11, TX11, 23)) (q0 := 0) hE hS hW rfl rfl) rfl rfl hl.1 rfl (lv_room (Nat.le_of_ble_eq_true rfl)) dL_law_869 ⟨by show cells + 1 + 0 ≤ 600000; omega, by show slots + 7 + 0 ≤ 7302250; omega⟩) hS (fun _ _ h => h) (fun _ h => h) (fun r2 M1 t H locs ht9 hvm hw hB hzz hkk hS => ?_)
  obtain ⟨er2, eM1⟩ := prj hw
  clear hw
  have hW : gW E M1 S1 H := by rw [← ht9]; exact hB
  have hP := P_hides hI (xs (nI i + 1).toNatClampNeg) (xs (nI i + 2).toNatClampNeg) (xs (nI i + 3).toNatClampNeg)
  refine lv_icmp_eq (tgt := 1290) hx hb dL_law_872 (by decide) (fun c_1 => ?_) (fun c_1 => ?_)
  · refine kk M1 S1 H locs ?_ hW hS
    rw [eM1, eS1]
    exact hP.2
  · exact absurd (er1.trans (hP.1.trans er2.symm)) c_1
set_option maxHeartbeats 4000000 in
set_option maxRecDepth 100000 in
theorem lc_19 {p : Program} {l : Launch} {e : Env} {s : State} {m : MethodId} {below : List Frame} {meth : Method} {c : Code} {b L : Nat} {xs : Nat → Int32} (C0 : lw_At p s m meth c b L xs) (hts : ∀ w ∈ wsL_law, w.before #[Value.ref b] s = true) {E : gEE} (hE : gE E s) (hbA : ¬ eA E b) (hL : L ≤ 3584) {i : Nat} (hi : i + 7 ≤ L) {cells slots : Nat} (hc1 : cells + 1 ≤ 600000) (hs1 : slots + 7 ≤ 7302250) {M : gSm} {S : gSc} (hI : inv M S) {H : Heap} {locs : List Loc} (hW : gW E M S H) (hS : va_S (eA E) s.heap H locs) {ls : Array Slot} (hl : lv_has ls 4 [(0, .ref b), (1, .ref (eC E 0)), (2, .ref (eM E 0)), (3, .int (nI i))]) (kk : ∀ (M1 : gSm) (S1 : gSc) (H1 : Heap) (locs1 : List Loc), inv M1 S1 → gW E M1 S1 H1 → va_S (eA E) s.heap H1 locs1 → W p l e room_1 s m #[Value.ref b] below meth c H1 locs1 (cells + 1) (slots + 7) (lw_Z below #[Value.ref b] s) (F0 m 1290 ls [])) : W p l e room_1 s m #[Value.ref b] below meth c H locs cells slots (lw_Z below #[Value.ref b] s) (F0 m 877 ls []) := by
  obtain ⟨hx, hb, hr, hml, hown, -, hX, hbl, hlocks, hgv⟩ := C0
  have hown : s.vm.findClass RL = some m.cls := hown
  refine lv_aload_n hx hb dL_law_877 rfl (lv_at hl 1 rfl) ?_
  refine lv_aload_n hx hb dL_law_878 rfl (lv_at hl 0 rfl) ?_
  refine lv_iload_n hx hb dL_law_879 rfl (lv_at hl 3 rfl) ?_
  refine lv_iconst (v := 1) hx hb dL_law_880 (by decide) ?_
  refine lv_iadd hx hb dL_law_881 ?_
  refine va_sld hx hb hX hbl hbA hS (lw_ix1 hi hL) dL_law_882 ?_
  refine lv_aload_n hx hb dL_law_883 rfl (lv_at hl 0 rfl) ?_
  refine lv_iload_n hx hb dL_law_884 rfl (lv_at hl 3 rfl) ?_
  refine lv_iconst (v := 2) hx hb dL_law_885 (by decide) ?_
  refine lv_iadd hx hb dL_law_886 ?_
  refine va_sld hx hb hX hbl hbA hS (lw_ix2 hi hL) dL_law_887 ?_
  refine lv_aload_n hx hb dL_law_888 rfl (lv_at hl 0 rfl) ?_
  refine lv_iload_n hx hb dL_law_889 rfl (lv_at hl 3 rfl) ?_
  refine lv_iconst (v := 3) hx hb dL_law_890 (by decide) ?_
  refine lv_iadd hx hb dL_law_891 ?_
  refine va_sld hx hb hX hbl hbA hS (lw_ix3 hi hL) dL_law_892 ?_
  refine lv_aload_n hx hb dL_law_893 rfl (lv_at hl 0 rfl) ?_
  refine lv_iload_n hx hb dL_law_894 rfl (lv_at hl 3 rfl) ?_
  refine lv_iconst (v := 4) hx hb dL_law_895 (by decide) ?_
  refine lv_iadd hx hb dL_law_896 ?_
  refine va_sld hx hb hX hbl hbA hS (lw_ix4 hi hL) dL_law_897 ?_
  refine va_calli (va_runV (As := [.int (xs (nI i + 1).toNatClampNeg), .int (xs (nI i + 2).toNatClampNeg), .int (xs (nI i + 3).toNatClampNeg), .int (xs (nI i + 4).toNatClampNeg)]) (rest := []) ⟨hx, hb, hml, hown, hts⟩ (c_X10_end l E M S (xs (nI i + 1).toNatClampNeg) (xs (nI i + 2).toNatClampNeg) (xs (nI i + 3).toNatClampNeg) (xs (nI i + 4).toNatClampNeg) (iv_T hI) (iv_H hI) (iv_kn0 hI) (iv_kn hI)) (cwV 4 hts gL_law_X10_end rfl rfl rfl (by decide +kernel) ⟨Nat.le_of_ble_eq_true rfl, Nat.le_of_ble_eq_true rfl⟩) (gP.V (ci := 9) (q := (RX10, TX10, 12)) (q0 := 11) hE hS hW rfl rfl) rfl rfl hl.1 rfl (lv_room (Nat.le_of_ble_eq_true rfl)) dL_law_898 ⟨by show cells + 0 ≤ 600000; omega, by show slots + 0 ≤ 7302250; omega⟩) hS (fun _ _ h => h) (fun _ h => h) (fun r1 S1 t H locs ht9 hvm hw hB hzz hkk hS => ?_)
  obtain ⟨er1, eS1⟩ := prj hw
  clear hw
  refine W.widen (k := cells + 1) (n := slots + 7) (by show cells + 0 ≤ cells + 1; omega) (by show slots + 0 ≤ slots + 7; omega) ?_
  have hW : gW E M S1 H := by rw [← ht9]; exact hB
  refine lv_aload_n hx hb dL_law_901 rfl (lv_at hl 2 rfl) ?_
  refine lv_aload_n hx hb dL_law_902 rfl (lv_at hl 0 rfl) ?_
  refine lv_iload_n hx hb dL_law_903 rfl (lv_at hl 3 rfl) ?_
  refine lv_iconst (v := 1) hx hb dL_law_904 (by decide) ?_
  refine lv_iadd hx hb dL_law_905 ?_
  refine va_sld hx hb hX hbl hbA hS (lw_ix1 hi hL) dL_law_906 ?_
  refine lv_aload_n hx hb dL_law_907 rfl (lv_at hl 0 rfl) ?_
  refine lv_iload_n hx hb dL_law_908 rfl (lv_at hl 3 rfl) ?_
  refine lv_iconst (v := 2) hx hb dL_law_909 (by decide) ?_
  refine lv_iadd hx hb dL_law_910 ?_
  refine va_sld hx hb hX hbl hbA hS (lw_ix2 hi hL) dL_law_911 ?_
  refine lv_aload_n hx hb dL_law_912 rfl (lv_at hl 0 rfl) ?_
  refine lv_iload_n hx hb dL_law_913 rfl (lv_at hl 3 rfl) ?_
  refine lv_iconst (v := 3) hx hb dL_law_914 (by decide) ?_
  refine lv_iadd hx hb dL_law_915 ?_
  refine va_sld hx hb hX hbl hbA hS (lw_ix3 hi hL) dL_law_916 ?_
  refine lv_aload_n hx hb dL_law_917 rfl (lv_at hl 0 rfl) ?_
  refine lv_iload_n hx hb dL_law_918 rfl (lv_at hl 3 rfl) ?_
  refine lv_iconst (v := 4) hx hb dL_law_919 (by decide) ?_
  refine lv_iadd hx hb dL_law_920 ?_
  refine va_sld hx hb hX hbl hbA hS (lw_ix4 hi hL) dL_law_921 ?_
  refine va_calli (va_runV (As := [.int (xs (nI i + 1).toNatClampNeg), .int (xs (nI i + 2).toNatClampNeg), .int (xs (nI i + 3).toNatClampNeg), .int (xs (nI i + 4).toNatClampNeg)]) (rest := [.int r1]) ⟨hx, hb, hml, hown, hts⟩ (c_X11_end l E M S1 (xs (nI i + 1).toNatClampNeg) (xs (nI i + 2).toNatClampNeg) (xs (nI i + 3).toNatClampNeg) (xs (nI i + 4).toNatClampNeg) (iv_mc hI)) (cwV 4 hts gL_law_X11_end rfl rfl rfl (by decide +kernel) ⟨Nat.le_of_ble_eq_true rfl, Nat.le_of_ble_eq_true rfl⟩) (gP.V (ci := 10) (q := (RX11, TX11, 23)) (q0 := 0) hE hS hW rfl rfl) rfl rfl hl.1 rfl (lv_room (Nat.le_of_ble_eq_true rfl)) dL_law_922 ⟨by show cells + 1 + 0 ≤ 600000; omega, by show slots + 7 + 0 ≤ 7302250; omega⟩) hS (fun _ _ h => h) (fun _ h => h) (fun r2 M1 t H locs ht9 hvm hw hB hzz hkk hS => ?_)
  obtain ⟨er2, eM1⟩ := prj hw
  clear hw
  have hW : gW E M1 S1 H := by rw [← ht9]; exact hB
  have hP := P_end hI (xs (nI i + 1).toNatClampNeg) (xs (nI i + 2).toNatClampNeg) (xs (nI i + 3).toNatClampNeg) (xs (nI i + 4).toNatClampNeg)
  refine lv_icmp_eq (tgt := 1290) hx hb dL_law_925 (by decide) (fun c_1 => ?_) (fun c_1 => ?_)
  · refine kk M1 S1 H locs ?_ hW hS
    rw [eM1, eS1]
    exact hP.2
  · exact absurd (er1.trans (hP.1.trans er2.symm)) c_1
set_option maxHeartbeats 4000000 in
set_option maxRecDepth 100000 in
theorem lc_20 {p : Program} {l : Launch} {e : Env} {s : State} {m : MethodId} {below : List Frame} {meth : Method} {c : Code} {b L : Nat} {xs : Nat → Int32} (C0 : lw_At p s m meth c b L xs) (hts : ∀ w ∈ wsL_law, w.before #[Value.ref b] s = true) {E : gEE} (hE : gE E s) (hbA : ¬ eA E b) (hL : L ≤ 3584) {i : Nat} (hi : i + 7 ≤ L) {cells slots : Nat} (hc1 : cells + 1 ≤ 600000) (hs1 : slots + 7 ≤ 7302250) {M : gSm} {S : gSc} (hI : inv M S) {H : Heap} {locs : List Loc} (hW : gW E M S H) (hS : va_S (eA E) s.heap H locs) {ls : Array Slot} (hl : lv_has ls 4 [(0, .ref b), (1, .ref (eC E 0)), (2, .ref (eM E 0)), (3, .int (nI i))]) (kk : ∀ (M1 : gSm) (S1 : gSc) (H1 : Heap) (locs1 : List Loc), inv M1 S1 → gW E M1 S1 H1 → va_S (eA E) s.heap H1 locs1 → W p l e room_1 s m #[Value.ref b] below meth c H1 locs1 (cells + 1) (slots + 7) (lw_Z below #[Value.ref b] s) (F0 m 1290 ls [])) : W p l e room_1 s m #[Value.ref b] below meth c H locs cells slots (lw_Z below #[Value.ref b] s) (F0 m 930 ls []) := by
  obtain ⟨hx, hb, hr, hml, hown, -, hX, hbl, hlocks, hgv⟩ := C0
  have hown : s.vm.findClass RL = some m.cls := hown
  refine lv_aload_n hx hb dL_law_930 rfl (lv_at hl 1 rfl) ?_
  refine lv_aload_n hx hb dL_law_931 rfl (lv_at hl 0 rfl) ?_
  refine lv_iload_n hx hb dL_law_932 rfl (lv_at hl 3 rfl) ?_
  refine lv_iconst (v := 1) hx hb dL_law_933 (by decide) ?_
  refine lv_iadd hx hb dL_law_934 ?_
  refine va_sld hx hb hX hbl hbA hS (lw_ix1 hi hL) dL_law_935 ?_
  refine lv_aload_n hx hb dL_law_936 rfl (lv_at hl 0 rfl) ?_
  refine lv_iload_n hx hb dL_law_937 rfl (lv_at hl 3 rfl) ?_
  refine lv_iconst (v := 2) hx hb dL_law_938 (by decide) ?_
  refine lv_iadd hx hb dL_law_939 ?_
  refine va_sld hx hb hX hbl hbA hS (lw_ix2 hi hL) dL_law_940 ?_
  refine lv_aload_n hx hb dL_law_941 rfl (lv_at hl 0 rfl) ?_
  refine lv_iload_n hx hb dL_law_942 rfl (lv_at hl 3 rfl) ?_
  refine lv_iconst (v := 3) hx hb dL_law_943 (by decide) ?_
  refine lv_iadd hx hb dL_law_944 ?_
  refine va_sld hx hb hX hbl hbA hS (lw_ix3 hi hL) dL_law_945 ?_
  refine va_calli (va_runV (As := [.int (xs (nI i + 1).toNatClampNeg), .int (xs (nI i + 2).toNatClampNeg), .int (xs (nI i + 3).toNatClampNeg)]) (rest := []) ⟨hx, hb, hml, hown, hts⟩ (c_X10_line l E M S (xs (nI i + 1).toNatClampNeg) (xs (nI i + 2).toNatClampNeg) (xs (nI i + 3).toNatClampNeg) (iv_T hI) (iv_H hI) (iv_kn0 hI) (iv_kn hI)) (cwV 3 hts gL_law_X10_line rfl rfl rfl (by decide +kernel) ⟨Nat.le_of_ble_eq_true rfl, Nat.le_of_ble_eq_true rfl⟩) (gP.V (ci := 9) (q := (RX10, TX10, 12)) (q0 := 11) hE hS hW rfl rfl) rfl rfl hl.1 rfl (lv_room (Nat.le_of_ble_eq_true rfl)) dL_law_946 ⟨by show cells + 0 ≤ 600000; omega, by show slots + 0 ≤ 7302250; omega⟩) hS (fun _ _ h => h) (fun _ h => h) (fun r1 S1 t H locs ht9 hvm hw hB hzz hkk hS => ?_)
  obtain ⟨er1, eS1⟩ := prj hw
  clear hw
  refine W.widen (k := cells + 1) (n := slots + 7) (by show cells + 0 ≤ cells + 1; omega) (by show slots + 0 ≤ slots + 7; omega) ?_
  have hW : gW E M S1 H := by rw [← ht9]; exact hB
  refine lv_aload_n hx hb dL_law_949 rfl (lv_at hl 2 rfl) ?_
  refine lv_aload_n hx hb dL_law_950 rfl (lv_at hl 0 rfl) ?_
  refine lv_iload_n hx hb dL_law_951 rfl (lv_at hl 3 rfl) ?_
  refine lv_iconst (v := 1) hx hb dL_law_952 (by decide) ?_
  refine lv_iadd hx hb dL_law_953 ?_
  refine va_sld hx hb hX hbl hbA hS (lw_ix1 hi hL) dL_law_954 ?_
  refine lv_aload_n hx hb dL_law_955 rfl (lv_at hl 0 rfl) ?_
  refine lv_iload_n hx hb dL_law_956 rfl (lv_at hl 3 rfl) ?_
  refine lv_iconst (v := 2) hx hb dL_law_957 (by decide) ?_
  refine lv_iadd hx hb dL_law_958 ?_
  refine va_sld hx hb hX hbl hbA hS (lw_ix2 hi hL) dL_law_959 ?_
  refine lv_aload_n hx hb dL_law_960 rfl (lv_at hl 0 rfl) ?_
  refine lv_iload_n hx hb dL_law_961 rfl (lv_at hl 3 rfl) ?_
  refine lv_iconst (v := 3) hx hb dL_law_962 (by decide) ?_
  refine lv_iadd hx hb dL_law_963 ?_
  refine va_sld hx hb hX hbl hbA hS (lw_ix3 hi hL) dL_law_964 ?_
  refine va_calli (va_runV (As := [.int (xs (nI i + 1).toNatClampNeg), .int (xs (nI i + 2).toNatClampNeg), .int (xs (nI i + 3).toNatClampNeg)]) (rest := [.int r1]) ⟨hx, hb, hml, hown, hts⟩ (c_X11_line l E M S1 (xs (nI i + 1).toNatClampNeg) (xs (nI i + 2).toNatClampNeg) (xs (nI i + 3).toNatClampNeg) (iv_mc hI)) (cwV 3 hts gL_law_X11_line rfl rfl rfl (by decide +kernel) ⟨Nat.le_of_ble_eq_true rfl, Nat.le_of_ble_eq_true rfl⟩) (gP.V (ci := 10) (q := (RX11, TX11, 23)) (q0 := 0) hE hS hW rfl rfl) rfl rfl hl.1 rfl (lv_room (Nat.le_of_ble_eq_true rfl)) dL_law_965 ⟨by show cells + 1 + 0 ≤ 600000; omega, by show slots + 7 + 0 ≤ 7302250; omega⟩) hS (fun _ _ h => h) (fun _ h => h) (fun r2 M1 t H locs ht9 hvm hw hB hzz hkk hS => ?_)
  obtain ⟨er2, eM1⟩ := prj hw
  clear hw
  have hW : gW E M1 S1 H := by rw [← ht9]; exact hB
  have hP := P_line hI (xs (nI i + 1).toNatClampNeg) (xs (nI i + 2).toNatClampNeg) (xs (nI i + 3).toNatClampNeg)
  refine lv_icmp_eq (tgt := 1290) hx hb dL_law_968 (by decide) (fun c_1 => ?_) (fun c_1 => ?_)
  · refine kk M1 S1 H locs ?_ hW hS
    rw [eM1, eS1]
    exact hP.2
  · exact absurd (er1.trans (hP.1.trans er2.symm)) c_1
set_option maxHeartbeats 4000000 in
set_option maxRecDepth 100000 in
theorem lc_21 {p : Program} {l : Launch} {e : Env} {s : State} {m : MethodId} {below : List Frame} {meth : Method} {c : Code} {b L : Nat} {xs : Nat → Int32} (C0 : lw_At p s m meth c b L xs) (hts : ∀ w ∈ wsL_law, w.before #[Value.ref b] s = true) {E : gEE} (hE : gE E s) (hbA : ¬ eA E b) (hL : L ≤ 3584) {i : Nat} (hi : i + 7 ≤ L) {cells slots : Nat} (hc1 : cells + 1 ≤ 600000) (hs1 : slots + 7 ≤ 7302250) {M : gSm} {S : gSc} (hI : inv M S) {H : Heap} {locs : List Loc} (hW : gW E M S H) (hS : va_S (eA E) s.heap H locs) {ls : Array Slot} (hl : lv_has ls 4 [(0, .ref b), (1, .ref (eC E 0)), (2, .ref (eM E 0)), (3, .int (nI i))]) (kk : ∀ (M1 : gSm) (S1 : gSc) (H1 : Heap) (locs1 : List Loc), inv M1 S1 → gW E M1 S1 H1 → va_S (eA E) s.heap H1 locs1 → W p l e room_1 s m #[Value.ref b] below meth c H1 locs1 (cells + 1) (slots + 7) (lw_Z below #[Value.ref b] s) (F0 m 1290 ls [])) : W p l e room_1 s m #[Value.ref b] below meth c H locs cells slots (lw_Z below #[Value.ref b] s) (F0 m 973 ls []) := by
  obtain ⟨hx, hb, hr, hml, hown, -, hX, hbl, hlocks, hgv⟩ := C0
  have hown : s.vm.findClass RL = some m.cls := hown
  refine lv_aload_n hx hb dL_law_973 rfl (lv_at hl 1 rfl) ?_
  refine lv_aload_n hx hb dL_law_974 rfl (lv_at hl 0 rfl) ?_
  refine lv_iload_n hx hb dL_law_975 rfl (lv_at hl 3 rfl) ?_
  refine lv_iconst (v := 1) hx hb dL_law_976 (by decide) ?_
  refine lv_iadd hx hb dL_law_977 ?_
  refine va_sld hx hb hX hbl hbA hS (lw_ix1 hi hL) dL_law_978 ?_
  refine lv_aload_n hx hb dL_law_979 rfl (lv_at hl 0 rfl) ?_
  refine lv_iload_n hx hb dL_law_980 rfl (lv_at hl 3 rfl) ?_
  refine lv_iconst (v := 2) hx hb dL_law_981 (by decide) ?_
  refine lv_iadd hx hb dL_law_982 ?_
  refine va_sld hx hb hX hbl hbA hS (lw_ix2 hi hL) dL_law_983 ?_
  refine lv_aload_n hx hb dL_law_984 rfl (lv_at hl 0 rfl) ?_
  refine lv_iload_n hx hb dL_law_985 rfl (lv_at hl 3 rfl) ?_
  refine lv_iconst (v := 3) hx hb dL_law_986 (by decide) ?_
  refine lv_iadd hx hb dL_law_987 ?_
  refine va_sld hx hb hX hbl hbA hS (lw_ix3 hi hL) dL_law_988 ?_
  refine lv_aload_n hx hb dL_law_989 rfl (lv_at hl 0 rfl) ?_
  refine lv_iload_n hx hb dL_law_990 rfl (lv_at hl 3 rfl) ?_
  refine lv_iconst (v := 4) hx hb dL_law_991 (by decide) ?_
  refine lv_iadd hx hb dL_law_992 ?_
  refine va_sld hx hb hX hbl hbA hS (lw_ix4 hi hL) dL_law_993 ?_
  refine va_calli (va_runV (As := [.int (xs (nI i + 1).toNatClampNeg), .int (xs (nI i + 2).toNatClampNeg), .int (xs (nI i + 3).toNatClampNeg), .int (xs (nI i + 4).toNatClampNeg)]) (rest := []) ⟨hx, hb, hml, hown, hts⟩ (c_X10_read l E M S (xs (nI i + 1).toNatClampNeg) (xs (nI i + 2).toNatClampNeg) (xs (nI i + 3).toNatClampNeg) (xs (nI i + 4).toNatClampNeg) (iv_T hI) (iv_H hI) (iv_kn0 hI) (iv_kn hI)) (cwV 4 hts gL_law_X10_read rfl rfl rfl (by decide +kernel) ⟨Nat.le_of_ble_eq_true rfl, Nat.le_of_ble_eq_true rfl⟩) (gP.V (ci := 9) (q := (RX10, TX10, 12)) (q0 := 11) hE hS hW rfl rfl) rfl rfl hl.1 rfl (lv_room (Nat.le_of_ble_eq_true rfl)) dL_law_994 ⟨by show cells + 0 ≤ 600000; omega, by show slots + 0 ≤ 7302250; omega⟩) hS (fun _ _ h => h) (fun _ h => h) (fun r1 S1 t H locs ht9 hvm hw hB hzz hkk hS => ?_)
  obtain ⟨er1, eS1⟩ := prj hw
  clear hw
  refine W.widen (k := cells + 1) (n := slots + 7) (by show cells + 0 ≤ cells + 1; omega) (by show slots + 0 ≤ slots + 7; omega) ?_
  have hW : gW E M S1 H := by rw [← ht9]; exact hB
  refine lv_aload_n hx hb dL_law_997 rfl (lv_at hl 2 rfl) ?_
  refine lv_aload_n hx hb dL_law_998 rfl (lv_at hl 0 rfl) ?_
  refine lv_iload_n hx hb dL_law_999 rfl (lv_at hl 3 rfl) ?_
  refine lv_iconst (v := 1) hx hb dL_law_1000 (by decide) ?_
  refine lv_iadd hx hb dL_law_1001 ?_
  refine va_sld hx hb hX hbl hbA hS (lw_ix1 hi hL) dL_law_1002 ?_
  refine lv_aload_n hx hb dL_law_1003 rfl (lv_at hl 0 rfl) ?_
  refine lv_iload_n hx hb dL_law_1004 rfl (lv_at hl 3 rfl) ?_
  refine lv_iconst (v := 2) hx hb dL_law_1005 (by decide) ?_
  refine lv_iadd hx hb dL_law_1006 ?_
  refine va_sld hx hb hX hbl hbA hS (lw_ix2 hi hL) dL_law_1007 ?_
  refine lv_aload_n hx hb dL_law_1008 rfl (lv_at hl 0 rfl) ?_
  refine lv_iload_n hx hb dL_law_1009 rfl (lv_at hl 3 rfl) ?_
  refine lv_iconst (v := 3) hx hb dL_law_1010 (by decide) ?_
  refine lv_iadd hx hb dL_law_1011 ?_
  refine va_sld hx hb hX hbl hbA hS (lw_ix3 hi hL) dL_law_1012 ?_
  refine lv_aload_n hx hb dL_law_1013 rfl (lv_at hl 0 rfl) ?_
  refine lv_iload_n hx hb dL_law_1014 rfl (lv_at hl 3 rfl) ?_
  refine lv_iconst (v := 4) hx hb dL_law_1015 (by decide) ?_
  refine lv_iadd hx hb dL_law_1016 ?_
  refine va_sld hx hb hX hbl hbA hS (lw_ix4 hi hL) dL_law_1017 ?_
  refine va_calli (va_runV (As := [.int (xs (nI i + 1).toNatClampNeg), .int (xs (nI i + 2).toNatClampNeg), .int (xs (nI i + 3).toNatClampNeg), .int (xs (nI i + 4).toNatClampNeg)]) (rest := [.int r1]) ⟨hx, hb, hml, hown, hts⟩ (c_X11_read l E M S1 (xs (nI i + 1).toNatClampNeg) (xs (nI i + 2).toNatClampNeg) (xs (nI i + 3).toNatClampNeg) (xs (nI i + 4).toNatClampNeg) (iv_mc hI)) (cwV 4 hts gL_law_X11_read rfl rfl rfl (by decide +kernel) ⟨Nat.le_of_ble_eq_true rfl, Nat.le_of_ble_eq_true rfl⟩) (gP.V (ci := 10) (q := (RX11, TX11, 23)) (q0 := 0) hE hS hW rfl rfl) rfl rfl hl.1 rfl (lv_room (Nat.le_of_ble_eq_true rfl)) dL_law_1018 ⟨by show cells + 1 + 0 ≤ 600000; omega, by show slots + 7 + 0 ≤ 7302250; omega⟩) hS (fun _ _ h => h) (fun _ h => h) (fun r2 M1 t H locs ht9 hvm hw hB hzz hkk hS => ?_)
  obtain ⟨er2, eM1⟩ := prj hw
  clear hw
  have hW : gW E M1 S1 H := by rw [← ht9]; exact hB
  have hP := P_read hI (xs (nI i + 1).toNatClampNeg) (xs (nI i + 2).toNatClampNeg) (xs (nI i + 3).toNatClampNeg) (xs (nI i + 4).toNatClampNeg)
  refine lv_icmp_eq (tgt := 1290) hx hb dL_law_1021 (by decide) (fun c_1 => ?_) (fun c_1 => ?_)
  · refine kk M1 S1 H locs ?_ hW hS
    rw [eM1, eS1]
    exact hP.2
  · exact absurd (er1.trans (hP.1.trans er2.symm)) c_1
set_option maxHeartbeats 4000000 in
set_option maxRecDepth 100000 in
theorem lc_22 {p : Program} {l : Launch} {e : Env} {s : State} {m : MethodId} {below : List Frame} {meth : Method} {c : Code} {b L : Nat} {xs : Nat → Int32} (C0 : lw_At p s m meth c b L xs) (hts : ∀ w ∈ wsL_law, w.before #[Value.ref b] s = true) {E : gEE} (hE : gE E s) (hbA : ¬ eA E b) (hL : L ≤ 3584) {i : Nat} (hi : i + 7 ≤ L) {cells slots : Nat} (hc1 : cells + 1 ≤ 600000) (hs1 : slots + 7 ≤ 7302250) {M : gSm} {S : gSc} (hI : inv M S) {H : Heap} {locs : List Loc} (hW : gW E M S H) (hS : va_S (eA E) s.heap H locs) {ls : Array Slot} (hl : lv_has ls 4 [(0, .ref b), (1, .ref (eC E 0)), (2, .ref (eM E 0)), (3, .int (nI i))]) (kk : ∀ (M1 : gSm) (S1 : gSc) (H1 : Heap) (locs1 : List Loc), inv M1 S1 → gW E M1 S1 H1 → va_S (eA E) s.heap H1 locs1 → W p l e room_1 s m #[Value.ref b] below meth c H1 locs1 (cells + 1) (slots + 7) (lw_Z below #[Value.ref b] s) (F0 m 1290 ls [])) : W p l e room_1 s m #[Value.ref b] below meth c H locs cells slots (lw_Z below #[Value.ref b] s) (F0 m 1026 ls []) := by
  obtain ⟨hx, hb, hr, hml, hown, -, hX, hbl, hlocks, hgv⟩ := C0
  have hown : s.vm.findClass RL = some m.cls := hown
  refine lv_aload_n hx hb dL_law_1026 rfl (lv_at hl 1 rfl) ?_
  refine lv_aload_n hx hb dL_law_1027 rfl (lv_at hl 0 rfl) ?_
  refine lv_iload_n hx hb dL_law_1028 rfl (lv_at hl 3 rfl) ?_
  refine lv_iconst (v := 1) hx hb dL_law_1029 (by decide) ?_
  refine lv_iadd hx hb dL_law_1030 ?_
  refine va_sld hx hb hX hbl hbA hS (lw_ix1 hi hL) dL_law_1031 ?_
  refine lv_aload_n hx hb dL_law_1032 rfl (lv_at hl 0 rfl) ?_
  refine lv_iload_n hx hb dL_law_1033 rfl (lv_at hl 3 rfl) ?_
  refine lv_iconst (v := 2) hx hb dL_law_1034 (by decide) ?_
  refine lv_iadd hx hb dL_law_1035 ?_
  refine va_sld hx hb hX hbl hbA hS (lw_ix2 hi hL) dL_law_1036 ?_
  refine lv_aload_n hx hb dL_law_1037 rfl (lv_at hl 0 rfl) ?_
  refine lv_iload_n hx hb dL_law_1038 rfl (lv_at hl 3 rfl) ?_
  refine lv_iconst (v := 3) hx hb dL_law_1039 (by decide) ?_
  refine lv_iadd hx hb dL_law_1040 ?_
  refine va_sld hx hb hX hbl hbA hS (lw_ix3 hi hL) dL_law_1041 ?_
  refine va_calli (va_runV (As := [.int (xs (nI i + 1).toNatClampNeg), .int (xs (nI i + 2).toNatClampNeg), .int (xs (nI i + 3).toNatClampNeg)]) (rest := []) ⟨hx, hb, hml, hown, hts⟩ (c_X10_late l E M S (xs (nI i + 1).toNatClampNeg) (xs (nI i + 2).toNatClampNeg) (xs (nI i + 3).toNatClampNeg) (iv_T hI) (iv_H hI) (iv_kn0 hI) (iv_kn hI)) (cwV 3 hts gL_law_X10_late rfl rfl rfl (by decide +kernel) ⟨Nat.le_of_ble_eq_true rfl, Nat.le_of_ble_eq_true rfl⟩) (gP.V (ci := 9) (q := (RX10, TX10, 12)) (q0 := 11) hE hS hW rfl rfl) rfl rfl hl.1 rfl (lv_room (Nat.le_of_ble_eq_true rfl)) dL_law_1042 ⟨by show cells + 0 ≤ 600000; omega, by show slots + 0 ≤ 7302250; omega⟩) hS (fun _ _ h => h) (fun _ h => h) (fun r1 S1 t H locs ht9 hvm hw hB hzz hkk hS => ?_)
  obtain ⟨er1, eS1⟩ := prj hw
  clear hw
  refine W.widen (k := cells + 1) (n := slots + 7) (by show cells + 0 ≤ cells + 1; omega) (by show slots + 0 ≤ slots + 7; omega) ?_
  have hW : gW E M S1 H := by rw [← ht9]; exact hB
  refine lv_aload_n hx hb dL_law_1045 rfl (lv_at hl 2 rfl) ?_
  refine lv_aload_n hx hb dL_law_1046 rfl (lv_at hl 0 rfl) ?_
  refine lv_iload_n hx hb dL_law_1047 rfl (lv_at hl 3 rfl) ?_
  refine lv_iconst (v := 1) hx hb dL_law_1048 (by decide) ?_
  refine lv_iadd hx hb dL_law_1049 ?_
  refine va_sld hx hb hX hbl hbA hS (lw_ix1 hi hL) dL_law_1050 ?_
  refine lv_aload_n hx hb dL_law_1051 rfl (lv_at hl 0 rfl) ?_
  refine lv_iload_n hx hb dL_law_1052 rfl (lv_at hl 3 rfl) ?_
  refine lv_iconst (v := 2) hx hb dL_law_1053 (by decide) ?_
  refine lv_iadd hx hb dL_law_1054 ?_
  refine va_sld hx hb hX hbl hbA hS (lw_ix2 hi hL) dL_law_1055 ?_
  refine lv_aload_n hx hb dL_law_1056 rfl (lv_at hl 0 rfl) ?_
  refine lv_iload_n hx hb dL_law_1057 rfl (lv_at hl 3 rfl) ?_
  refine lv_iconst (v := 3) hx hb dL_law_1058 (by decide) ?_
  refine lv_iadd hx hb dL_law_1059 ?_
  refine va_sld hx hb hX hbl hbA hS (lw_ix3 hi hL) dL_law_1060 ?_
  refine va_calli (va_runV (As := [.int (xs (nI i + 1).toNatClampNeg), .int (xs (nI i + 2).toNatClampNeg), .int (xs (nI i + 3).toNatClampNeg)]) (rest := [.int r1]) ⟨hx, hb, hml, hown, hts⟩ (c_X11_late l E M S1 (xs (nI i + 1).toNatClampNeg) (xs (nI i + 2).toNatClampNeg) (xs (nI i + 3).toNatClampNeg) (iv_mc hI)) (cwV 3 hts gL_law_X11_late rfl rfl rfl (by decide +kernel) ⟨Nat.le_of_ble_eq_true rfl, Nat.le_of_ble_eq_true rfl⟩) (gP.V (ci := 10) (q := (RX11, TX11, 23)) (q0 := 0) hE hS hW rfl rfl) rfl rfl hl.1 rfl (lv_room (Nat.le_of_ble_eq_true rfl)) dL_law_1061 ⟨by show cells + 1 + 0 ≤ 600000; omega, by show slots + 7 + 0 ≤ 7302250; omega⟩) hS (fun _ _ h => h) (fun _ h => h) (fun r2 M1 t H locs ht9 hvm hw hB hzz hkk hS => ?_)
  obtain ⟨er2, eM1⟩ := prj hw
  clear hw
  have hW : gW E M1 S1 H := by rw [← ht9]; exact hB
  have hP := P_late hI (xs (nI i + 1).toNatClampNeg) (xs (nI i + 2).toNatClampNeg) (xs (nI i + 3).toNatClampNeg)
  refine lv_icmp_eq (tgt := 1290) hx hb dL_law_1064 (by decide) (fun c_1 => ?_) (fun c_1 => ?_)
  · refine kk M1 S1 H locs ?_ hW hS
    rw [eM1, eS1]
    exact hP.2
  · exact absurd (er1.trans (hP.1.trans er2.symm)) c_1
set_option maxHeartbeats 4000000 in
set_option maxRecDepth 100000 in
theorem lc_23 {p : Program} {l : Launch} {e : Env} {s : State} {m : MethodId} {below : List Frame} {meth : Method} {c : Code} {b L : Nat} {xs : Nat → Int32} (C0 : lw_At p s m meth c b L xs) (hts : ∀ w ∈ wsL_law, w.before #[Value.ref b] s = true) {E : gEE} (hE : gE E s) (hbA : ¬ eA E b) (hL : L ≤ 3584) {i : Nat} (hi : i + 7 ≤ L) {cells slots : Nat} (hc1 : cells + 1 ≤ 600000) (hs1 : slots + 7 ≤ 7302250) {M : gSm} {S : gSc} (hI : inv M S) {H : Heap} {locs : List Loc} (hW : gW E M S H) (hS : va_S (eA E) s.heap H locs) {ls : Array Slot} (hl : lv_has ls 4 [(0, .ref b), (1, .ref (eC E 0)), (2, .ref (eM E 0)), (3, .int (nI i))]) (kk : ∀ (M1 : gSm) (S1 : gSc) (H1 : Heap) (locs1 : List Loc), inv M1 S1 → gW E M1 S1 H1 → va_S (eA E) s.heap H1 locs1 → W p l e room_1 s m #[Value.ref b] below meth c H1 locs1 (cells + 1) (slots + 7) (lw_Z below #[Value.ref b] s) (F0 m 1290 ls [])) : W p l e room_1 s m #[Value.ref b] below meth c H locs cells slots (lw_Z below #[Value.ref b] s) (F0 m 1069 ls []) := by
  obtain ⟨hx, hb, hr, hml, hown, -, hX, hbl, hlocks, hgv⟩ := C0
  have hown : s.vm.findClass RL = some m.cls := hown
  refine lv_aload_n hx hb dL_law_1069 rfl (lv_at hl 1 rfl) ?_
  refine lv_aload_n hx hb dL_law_1070 rfl (lv_at hl 0 rfl) ?_
  refine lv_iload_n hx hb dL_law_1071 rfl (lv_at hl 3 rfl) ?_
  refine lv_iconst (v := 1) hx hb dL_law_1072 (by decide) ?_
  refine lv_iadd hx hb dL_law_1073 ?_
  refine va_sld hx hb hX hbl hbA hS (lw_ix1 hi hL) dL_law_1074 ?_
  refine lv_aload_n hx hb dL_law_1075 rfl (lv_at hl 0 rfl) ?_
  refine lv_iload_n hx hb dL_law_1076 rfl (lv_at hl 3 rfl) ?_
  refine lv_iconst (v := 2) hx hb dL_law_1077 (by decide) ?_
  refine lv_iadd hx hb dL_law_1078 ?_
  refine va_sld hx hb hX hbl hbA hS (lw_ix2 hi hL) dL_law_1079 ?_
  refine va_calli (va_runV (As := [.int (xs (nI i + 1).toNatClampNeg), .int (xs (nI i + 2).toNatClampNeg)]) (rest := []) ⟨hx, hb, hml, hown, hts⟩ (c_X10_stretches l E M S (xs (nI i + 1).toNatClampNeg) (xs (nI i + 2).toNatClampNeg) (iv_T hI) (iv_H hI) (iv_kn0 hI) (iv_kn hI)) (cwV 2 hts gL_law_X10_stretches rfl rfl rfl (by decide +kernel) ⟨Nat.le_of_ble_eq_true rfl, Nat.le_of_ble_eq_true rfl⟩) (gP.V (ci := 9) (q := (RX10, TX10, 12)) (q0 := 11) hE hS hW rfl rfl) rfl rfl hl.1 rfl (lv_room (Nat.le_of_ble_eq_true rfl)) dL_law_1080 ⟨by show cells + 0 ≤ 600000; omega, by show slots + 0 ≤ 7302250; omega⟩) hS (fun _ _ h => h) (fun _ h => h) (fun r1 S1 t H locs ht9 hvm hw hB hzz hkk hS => ?_)
  obtain ⟨er1, eS1⟩ := prj hw
  clear hw
  refine W.widen (k := cells + 1) (n := slots + 7) (by show cells + 0 ≤ cells + 1; omega) (by show slots + 0 ≤ slots + 7; omega) ?_
  have hW : gW E M S1 H := by rw [← ht9]; exact hB
  refine lv_aload_n hx hb dL_law_1083 rfl (lv_at hl 2 rfl) ?_
  refine lv_aload_n hx hb dL_law_1084 rfl (lv_at hl 0 rfl) ?_
  refine lv_iload_n hx hb dL_law_1085 rfl (lv_at hl 3 rfl) ?_
  refine lv_iconst (v := 1) hx hb dL_law_1086 (by decide) ?_
  refine lv_iadd hx hb dL_law_1087 ?_
  refine va_sld hx hb hX hbl hbA hS (lw_ix1 hi hL) dL_law_1088 ?_
  refine lv_aload_n hx hb dL_law_1089 rfl (lv_at hl 0 rfl) ?_
  refine lv_iload_n hx hb dL_law_1090 rfl (lv_at hl 3 rfl) ?_
  refine lv_iconst (v := 2) hx hb dL_law_1091 (by decide) ?_
  refine lv_iadd hx hb dL_law_1092 ?_
  refine va_sld hx hb hX hbl hbA hS (lw_ix2 hi hL) dL_law_1093 ?_
  refine va_calli (va_runV (As := [.int (xs (nI i + 1).toNatClampNeg), .int (xs (nI i + 2).toNatClampNeg)]) (rest := [.int r1]) ⟨hx, hb, hml, hown, hts⟩ (c_X11_stretches l E M S1 (xs (nI i + 1).toNatClampNeg) (xs (nI i + 2).toNatClampNeg) (iv_mc hI)) (cwV 2 hts gL_law_X11_stretches rfl rfl rfl (by decide +kernel) ⟨Nat.le_of_ble_eq_true rfl, Nat.le_of_ble_eq_true rfl⟩) (gP.V (ci := 10) (q := (RX11, TX11, 23)) (q0 := 0) hE hS hW rfl rfl) rfl rfl hl.1 rfl (lv_room (Nat.le_of_ble_eq_true rfl)) dL_law_1094 ⟨by show cells + 1 + 0 ≤ 600000; omega, by show slots + 7 + 0 ≤ 7302250; omega⟩) hS (fun _ _ h => h) (fun _ h => h) (fun r2 M1 t H locs ht9 hvm hw hB hzz hkk hS => ?_)
  obtain ⟨er2, eM1⟩ := prj hw
  clear hw
  have hW : gW E M1 S1 H := by rw [← ht9]; exact hB
  have hP := P_stretches hI (xs (nI i + 1).toNatClampNeg) (xs (nI i + 2).toNatClampNeg)
  refine lv_icmp_eq (tgt := 1290) hx hb dL_law_1097 (by decide) (fun c_1 => ?_) (fun c_1 => ?_)
  · refine kk M1 S1 H locs ?_ hW hS
    rw [eM1, eS1]
    exact hP.2
  · exact absurd (er1.trans (hP.1.trans er2.symm)) c_1
