set_option maxHeartbeats 4000000 in
set_option maxRecDepth 100000 in
theorem lc_0 {p : Program} {l : Launch} {e : Env} {s : State} {m : MethodId} {below : List Frame} {meth : Method} {c : Code} {b L : Nat} {xs : Nat → Int32} (C0 : lw_At p s m meth c b L xs) (hts : ∀ w ∈ wsL_law, w.before #[Value.ref b] s = true) {E : gEE} (hE : gE E s) (hbA : ¬ eA E b) (hL : L ≤ 3584) {i : Nat} (hi : i + 7 ≤ L) {cells slots : Nat} (hc1 : cells + 1 ≤ 600000) (hs1 : slots + 7 ≤ 7302250) {M : gSm} {S : gSc} (hI : inv M S) {H : Heap} {locs : List Loc} (hW : gW E M S H) (hS : va_S (eA E) s.heap H locs) {ls : Array Slot} (hl : lv_has ls 4 [(0, .ref b), (1, .ref (eC E 0)), (2, .ref (eM E 0)), (3, .int (nI i))]) (kk : ∀ (M1 : gSm) (S1 : gSc) (H1 : Heap) (locs1 : List Loc), inv M1 S1 → gW E M1 S1 H1 → va_S (eA E) s.heap H1 locs1 → W p l e room_1 s m #[Value.ref b] below meth c H1 locs1 (cells + 1) (slots + 7) (lw_Z below #[Value.ref b] s) (F0 m 1290 ls [])) : W p l e room_1 s m #[Value.ref b] below meth c H locs cells slots (lw_Z below #[Value.ref b] s) (F0 m 168 ls []) := by
  obtain ⟨hx, hb, hr, hml, hown, -, hX, hbl, hlocks, hgv⟩ := C0
  have hown : s.vm.findClass RL = some m.cls := hown
  refine lv_aload_n hx hb dL_law_168 rfl (lv_at hl 1 rfl) ?_
  refine lv_aload_n hx hb dL_law_169 rfl (lv_at hl 0 rfl) ?_
  refine lv_iload_n hx hb dL_law_170 rfl (lv_at hl 3 rfl) ?_
  refine lv_iconst (v := 1) hx hb dL_law_171 (by decide) ?_
  refine lv_iadd hx hb dL_law_172 ?_
  refine va_sld hx hb hX hbl hbA hS (lw_ix1 hi hL) dL_law_173 ?_
  refine k_Si (va_runV (As := [.int (xs (nI i + 1).toNatClampNeg)]) (rest := []) ⟨hx, hb, hml, hown, hts⟩ (c_X10_sine l E M S (xs (nI i + 1).toNatClampNeg) ) (cwV 1 hts gL_law_X10_sine rfl rfl rfl (by decide +kernel) ⟨Nat.le_of_ble_eq_true rfl, Nat.le_of_ble_eq_true rfl⟩) (gP.V (ci := 9) (q := (RX10, TX10, 12)) (q0 := 11) hE hS hW rfl rfl) rfl rfl hl.1 rfl (lv_room (Nat.le_of_ble_eq_true rfl)) dL_law_174 ⟨by show cells + 0 ≤ 600000; omega, by show slots + 0 ≤ 7302250; omega⟩) (fun r1 er1 => ?_)
  refine lv_aload_n hx hb dL_law_177 rfl (lv_at hl 2 rfl) ?_
  refine lv_aload_n hx hb dL_law_178 rfl (lv_at hl 0 rfl) ?_
  refine lv_iload_n hx hb dL_law_179 rfl (lv_at hl 3 rfl) ?_
  refine lv_iconst (v := 1) hx hb dL_law_180 (by decide) ?_
  refine lv_iadd hx hb dL_law_181 ?_
  refine va_sld hx hb hX hbl hbA hS (lw_ix1 hi hL) dL_law_182 ?_
  refine k_Si (va_runV (As := [.int (xs (nI i + 1).toNatClampNeg)]) (rest := [.int r1]) ⟨hx, hb, hml, hown, hts⟩ (c_X11_sine l E M S (xs (nI i + 1).toNatClampNeg) ) (cwV 1 hts gL_law_X11_sine rfl rfl rfl (by decide +kernel) ⟨Nat.le_of_ble_eq_true rfl, Nat.le_of_ble_eq_true rfl⟩) (gP.V (ci := 10) (q := (RX11, TX11, 23)) (q0 := 0) hE hS hW rfl rfl) rfl rfl hl.1 rfl (lv_room (Nat.le_of_ble_eq_true rfl)) dL_law_183 ⟨by show cells + 0 ≤ 600000; omega, by show slots + 0 ≤ 7302250; omega⟩) (fun r2 er2 => ?_)
  have hP := P_sine M S (xs (nI i + 1).toNatClampNeg)
  refine lv_icmp_eq (tgt := 1290) hx hb dL_law_186 (by decide) (fun c_1 => ?_) (fun c_1 => ?_)
  · exact W.widen (k := cells + 1) (n := slots + 7) (Nat.le_add_right _ _) (Nat.le_add_right _ _) (kk M S H locs hI hW hS)
  · exact absurd (er1.trans (hP.trans er2.symm)) c_1
set_option maxHeartbeats 4000000 in
set_option maxRecDepth 100000 in
theorem lc_1 {p : Program} {l : Launch} {e : Env} {s : State} {m : MethodId} {below : List Frame} {meth : Method} {c : Code} {b L : Nat} {xs : Nat → Int32} (C0 : lw_At p s m meth c b L xs) (hts : ∀ w ∈ wsL_law, w.before #[Value.ref b] s = true) {E : gEE} (hE : gE E s) (hbA : ¬ eA E b) (hL : L ≤ 3584) {i : Nat} (hi : i + 7 ≤ L) {cells slots : Nat} (hc1 : cells + 1 ≤ 600000) (hs1 : slots + 7 ≤ 7302250) {M : gSm} {S : gSc} (hI : inv M S) {H : Heap} {locs : List Loc} (hW : gW E M S H) (hS : va_S (eA E) s.heap H locs) {ls : Array Slot} (hl : lv_has ls 4 [(0, .ref b), (1, .ref (eC E 0)), (2, .ref (eM E 0)), (3, .int (nI i))]) (kk : ∀ (M1 : gSm) (S1 : gSc) (H1 : Heap) (locs1 : List Loc), inv M1 S1 → gW E M1 S1 H1 → va_S (eA E) s.heap H1 locs1 → W p l e room_1 s m #[Value.ref b] below meth c H1 locs1 (cells + 1) (slots + 7) (lw_Z below #[Value.ref b] s) (F0 m 1290 ls [])) : W p l e room_1 s m #[Value.ref b] below meth c H locs cells slots (lw_Z below #[Value.ref b] s) (F0 m 191 ls []) := by
  obtain ⟨hx, hb, hr, hml, hown, -, hX, hbl, hlocks, hgv⟩ := C0
  have hown : s.vm.findClass RL = some m.cls := hown
  refine lv_aload_n hx hb dL_law_191 rfl (lv_at hl 1 rfl) ?_
  refine lv_aload_n hx hb dL_law_192 rfl (lv_at hl 0 rfl) ?_
  refine lv_iload_n hx hb dL_law_193 rfl (lv_at hl 3 rfl) ?_
  refine lv_iconst (v := 1) hx hb dL_law_194 (by decide) ?_
  refine lv_iadd hx hb dL_law_195 ?_
  refine va_sld hx hb hX hbl hbA hS (lw_ix1 hi hL) dL_law_196 ?_
  refine va_calli (va_runV (As := [.int (xs (nI i + 1).toNatClampNeg)]) (rest := []) ⟨hx, hb, hml, hown, hts⟩ (c_X10_latitude l E M S (xs (nI i + 1).toNatClampNeg) ) (cwV 1 hts gL_law_X10_latitude rfl rfl rfl (by decide +kernel) ⟨Nat.le_of_ble_eq_true rfl, Nat.le_of_ble_eq_true rfl⟩) (gP.V (ci := 9) (q := (RX10, TX10, 12)) (q0 := 11) hE hS hW rfl rfl) rfl rfl hl.1 rfl (lv_room (Nat.le_of_ble_eq_true rfl)) dL_law_197 ⟨by show cells + 0 ≤ 600000; omega, by show slots + 0 ≤ 7302250; omega⟩) hS (fun _ _ h => h) (fun _ h => h) (fun r1 S1 t H locs ht9 hvm hw hB hzz hkk hS => ?_)
  obtain ⟨er1, eS1⟩ := prj hw
  clear hw
  refine W.widen (k := cells + 1) (n := slots + 7) (by show cells + 0 ≤ cells + 1; omega) (by show slots + 0 ≤ slots + 7; omega) ?_
  have hW : gW E M S1 H := by rw [← ht9]; exact hB
  refine lv_aload_n hx hb dL_law_200 rfl (lv_at hl 2 rfl) ?_
  refine lv_aload_n hx hb dL_law_201 rfl (lv_at hl 0 rfl) ?_
  refine lv_iload_n hx hb dL_law_202 rfl (lv_at hl 3 rfl) ?_
  refine lv_iconst (v := 1) hx hb dL_law_203 (by decide) ?_
  refine lv_iadd hx hb dL_law_204 ?_
  refine va_sld hx hb hX hbl hbA hS (lw_ix1 hi hL) dL_law_205 ?_
  refine va_calli (va_runV (As := [.int (xs (nI i + 1).toNatClampNeg)]) (rest := [.int r1]) ⟨hx, hb, hml, hown, hts⟩ (c_X11_latitude l E M S1 (xs (nI i + 1).toNatClampNeg) ) (cwV 1 hts gL_law_X11_latitude rfl rfl rfl (by decide +kernel) ⟨Nat.le_of_ble_eq_true rfl, Nat.le_of_ble_eq_true rfl⟩) (gP.V (ci := 10) (q := (RX11, TX11, 23)) (q0 := 0) hE hS hW rfl rfl) rfl rfl hl.1 rfl (lv_room (Nat.le_of_ble_eq_true rfl)) dL_law_206 ⟨by show cells + 1 + 0 ≤ 600000; omega, by show slots + 7 + 0 ≤ 7302250; omega⟩) hS (fun _ _ h => h) (fun _ h => h) (fun r2 M1 t H locs ht9 hvm hw hB hzz hkk hS => ?_)
  obtain ⟨er2, eM1⟩ := prj hw
  clear hw
  have hW : gW E M1 S1 H := by rw [← ht9]; exact hB
  have hP := P_latitude hI (xs (nI i + 1).toNatClampNeg)
  refine lv_icmp_eq (tgt := 1290) hx hb dL_law_209 (by decide) (fun c_1 => ?_) (fun c_1 => ?_)
  · refine kk M1 S1 H locs ?_ hW hS
    rw [eM1, eS1]
    exact hP.2
  · exact absurd (er1.trans (hP.1.trans er2.symm)) c_1
set_option maxHeartbeats 4000000 in
set_option maxRecDepth 100000 in
theorem lc_2 {p : Program} {l : Launch} {e : Env} {s : State} {m : MethodId} {below : List Frame} {meth : Method} {c : Code} {b L : Nat} {xs : Nat → Int32} (C0 : lw_At p s m meth c b L xs) (hts : ∀ w ∈ wsL_law, w.before #[Value.ref b] s = true) {E : gEE} (hE : gE E s) (hbA : ¬ eA E b) (hL : L ≤ 3584) {i : Nat} (hi : i + 7 ≤ L) {cells slots : Nat} (hc1 : cells + 1 ≤ 600000) (hs1 : slots + 7 ≤ 7302250) {M : gSm} {S : gSc} (hI : inv M S) {H : Heap} {locs : List Loc} (hW : gW E M S H) (hS : va_S (eA E) s.heap H locs) {ls : Array Slot} (hl : lv_has ls 4 [(0, .ref b), (1, .ref (eC E 0)), (2, .ref (eM E 0)), (3, .int (nI i))]) (kk : ∀ (M1 : gSm) (S1 : gSc) (H1 : Heap) (locs1 : List Loc), inv M1 S1 → gW E M1 S1 H1 → va_S (eA E) s.heap H1 locs1 → W p l e room_1 s m #[Value.ref b] below meth c H1 locs1 (cells + 1) (slots + 7) (lw_Z below #[Value.ref b] s) (F0 m 1290 ls [])) : W p l e room_1 s m #[Value.ref b] below meth c H locs cells slots (lw_Z below #[Value.ref b] s) (F0 m 214 ls []) := by
  obtain ⟨hx, hb, hr, hml, hown, -, hX, hbl, hlocks, hgv⟩ := C0
  have hown : s.vm.findClass RL = some m.cls := hown
  refine lv_aload_n hx hb dL_law_214 rfl (lv_at hl 1 rfl) ?_
  refine lv_aload_n hx hb dL_law_215 rfl (lv_at hl 0 rfl) ?_
  refine lv_iload_n hx hb dL_law_216 rfl (lv_at hl 3 rfl) ?_
  refine lv_iconst (v := 1) hx hb dL_law_217 (by decide) ?_
  refine lv_iadd hx hb dL_law_218 ?_
  refine va_sld hx hb hX hbl hbA hS (lw_ix1 hi hL) dL_law_219 ?_
  refine va_calli (va_runV (As := [.int (xs (nI i + 1).toNatClampNeg)]) (rest := []) ⟨hx, hb, hml, hown, hts⟩ (c_X10_corrections l E M S (xs (nI i + 1).toNatClampNeg) ) (cwV 1 hts gL_law_X10_corrections rfl rfl rfl (by decide +kernel) ⟨Nat.le_of_ble_eq_true rfl, Nat.le_of_ble_eq_true rfl⟩) (gP.V (ci := 9) (q := (RX10, TX10, 12)) (q0 := 11) hE hS hW rfl rfl) rfl rfl hl.1 rfl (lv_room (Nat.le_of_ble_eq_true rfl)) dL_law_220 ⟨by show cells + 0 ≤ 600000; omega, by show slots + 0 ≤ 7302250; omega⟩) hS (fun _ _ h => h) (fun _ h => h) (fun r1 S1 t H locs ht9 hvm hw hB hzz hkk hS => ?_)
  obtain ⟨er1, eS1⟩ := prj hw
  clear hw
  refine W.widen (k := cells + 1) (n := slots + 7) (by show cells + 0 ≤ cells + 1; omega) (by show slots + 0 ≤ slots + 7; omega) ?_
  have hW : gW E M S1 H := by rw [← ht9]; exact hB
  refine lv_aload_n hx hb dL_law_223 rfl (lv_at hl 2 rfl) ?_
  refine lv_aload_n hx hb dL_law_224 rfl (lv_at hl 0 rfl) ?_
  refine lv_iload_n hx hb dL_law_225 rfl (lv_at hl 3 rfl) ?_
  refine lv_iconst (v := 1) hx hb dL_law_226 (by decide) ?_
  refine lv_iadd hx hb dL_law_227 ?_
  refine va_sld hx hb hX hbl hbA hS (lw_ix1 hi hL) dL_law_228 ?_
  refine va_calli (va_runV (As := [.int (xs (nI i + 1).toNatClampNeg)]) (rest := [.int r1]) ⟨hx, hb, hml, hown, hts⟩ (c_X11_corrections l E M S1 (xs (nI i + 1).toNatClampNeg) ) (cwV 1 hts gL_law_X11_corrections rfl rfl rfl (by decide +kernel) ⟨Nat.le_of_ble_eq_true rfl, Nat.le_of_ble_eq_true rfl⟩) (gP.V (ci := 10) (q := (RX11, TX11, 23)) (q0 := 0) hE hS hW rfl rfl) rfl rfl hl.1 rfl (lv_room (Nat.le_of_ble_eq_true rfl)) dL_law_229 ⟨by show cells + 1 + 0 ≤ 600000; omega, by show slots + 7 + 0 ≤ 7302250; omega⟩) hS (fun _ _ h => h) (fun _ h => h) (fun r2 M1 t H locs ht9 hvm hw hB hzz hkk hS => ?_)
  obtain ⟨er2, eM1⟩ := prj hw
  clear hw
  have hW : gW E M1 S1 H := by rw [← ht9]; exact hB
  have hP := P_corrections hI (xs (nI i + 1).toNatClampNeg)
  refine lv_icmp_eq (tgt := 1290) hx hb dL_law_232 (by decide) (fun c_1 => ?_) (fun c_1 => ?_)
  · refine kk M1 S1 H locs ?_ hW hS
    rw [eM1, eS1]
    exact hP.2
  · exact absurd (er1.trans (hP.1.trans er2.symm)) c_1
