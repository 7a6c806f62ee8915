set_option maxHeartbeats 4000000 in
set_option maxRecDepth 100000 in
theorem lc_24 {p : Program} {l : Launch} {e : Env} {s : State} {m : MethodId} {below : List Frame} {meth : Method} {c : Code} {b L : Nat} {xs : Nat → Int32} (C0 : lw_At p s m meth c b L xs) (hts : ∀ w ∈ wsL_law, w.before #[Value.ref b] s = true) {E : gEE} (hE : gE E s) (hbA : ¬ eA E b) (hL : L ≤ 3584) {i : Nat} (hi : i + 7 ≤ L) {cells slots : Nat} (hc1 : cells + 1 ≤ 600000) (hs1 : slots + 7 ≤ 7302250) {M : gSm} {S : gSc} (hI : inv M S) {H : Heap} {locs : List Loc} (hW : gW E M S H) (hS : va_S (eA E) s.heap H locs) {ls : Array Slot} (hl : lv_has ls 4 [(0, .ref b), (1, .ref (eC E 0)), (2, .ref (eM E 0)), (3, .int (nI i))]) (kk : ∀ (M1 : gSm) (S1 : gSc) (H1 : Heap) (locs1 : List Loc), inv M1 S1 → gW E M1 S1 H1 → va_S (eA E) s.heap H1 locs1 → W p l e room_1 s m #[Value.ref b] below meth c H1 locs1 (cells + 1) (slots + 7) (lw_Z below #[Value.ref b] s) (F0 m 1290 ls [])) : W p l e room_1 s m #[Value.ref b] below meth c H locs cells slots (lw_Z below #[Value.ref b] s) (F0 m 1102 ls []) := by
  obtain ⟨hx, hb, hr, hml, hown, -, hX, hbl, hlocks, hgv⟩ := C0
  have hown : s.vm.findClass RL = some m.cls := hown
  refine lv_aload_n hx hb dL_law_1102 rfl (lv_at hl 1 rfl) ?_
  refine lv_aload_n hx hb dL_law_1103 rfl (lv_at hl 0 rfl) ?_
  refine lv_iload_n hx hb dL_law_1104 rfl (lv_at hl 3 rfl) ?_
  refine lv_iconst (v := 1) hx hb dL_law_1105 (by decide) ?_
  refine lv_iadd hx hb dL_law_1106 ?_
  refine va_sld hx hb hX hbl hbA hS (lw_ix1 hi hL) dL_law_1107 ?_
  refine lv_aload_n hx hb dL_law_1108 rfl (lv_at hl 0 rfl) ?_
  refine lv_iload_n hx hb dL_law_1109 rfl (lv_at hl 3 rfl) ?_
  refine lv_iconst (v := 2) hx hb dL_law_1110 (by decide) ?_
  refine lv_iadd hx hb dL_law_1111 ?_
  refine va_sld hx hb hX hbl hbA hS (lw_ix2 hi hL) dL_law_1112 ?_
  refine lv_aload_n hx hb dL_law_1113 rfl (lv_at hl 0 rfl) ?_
  refine lv_iload_n hx hb dL_law_1114 rfl (lv_at hl 3 rfl) ?_
  refine lv_iconst (v := 3) hx hb dL_law_1115 (by decide) ?_
  refine lv_iadd hx hb dL_law_1116 ?_
  refine va_sld hx hb hX hbl hbA hS (lw_ix3 hi hL) dL_law_1117 ?_
  refine lv_aload_n hx hb dL_law_1118 rfl (lv_at hl 0 rfl) ?_
  refine lv_iload_n hx hb dL_law_1119 rfl (lv_at hl 3 rfl) ?_
  refine lv_iconst (v := 4) hx hb dL_law_1120 (by decide) ?_
  refine lv_iadd hx hb dL_law_1121 ?_
  refine va_sld hx hb hX hbl hbA hS (lw_ix4 hi hL) dL_law_1122 ?_
  refine va_calli (va_runV (As := [.int (xs (nI i + 1).toNatClampNeg), .int (xs (nI i + 2).toNatClampNeg), .int (xs (nI i + 3).toNatClampNeg), .int (xs (nI i + 4).toNatClampNeg)]) (rest := []) ⟨hx, hb, hml, hown, hts⟩ (c_X10_stretch l E M S (xs (nI i + 1).toNatClampNeg) (xs (nI i + 2).toNatClampNeg) (xs (nI i + 3).toNatClampNeg) (xs (nI i + 4).toNatClampNeg) (iv_T hI) (iv_H hI) (iv_kn0 hI) (iv_kn hI)) (cwV 4 hts gL_law_X10_stretch rfl rfl rfl (by decide +kernel) ⟨Nat.le_of_ble_eq_true rfl, Nat.le_of_ble_eq_true rfl⟩) (gP.V (ci := 9) (q := (RX10, TX10, 12)) (q0 := 11) hE hS hW rfl rfl) rfl rfl hl.1 rfl (lv_room (Nat.le_of_ble_eq_true rfl)) dL_law_1123 ⟨by show cells + 0 ≤ 600000; omega, by show slots + 0 ≤ 7302250; omega⟩) hS (fun _ _ h => h) (fun _ h => h) (fun r1 S1 t H locs ht9 hvm hw hB hzz hkk hS => ?_)
  obtain ⟨er1, eS1⟩ := prj hw
  clear hw
  refine W.widen (k := cells + 1) (n := slots + 7) (by show cells + 0 ≤ cells + 1; omega) (by show slots + 0 ≤ slots + 7; omega) ?_
  have hW : gW E M S1 H := by rw [← ht9]; exact hB
  refine lv_aload_n hx hb dL_law_1126 rfl (lv_at hl 2 rfl) ?_
  refine lv_aload_n hx hb dL_law_1127 rfl (lv_at hl 0 rfl) ?_
  refine lv_iload_n hx hb dL_law_1128 rfl (lv_at hl 3 rfl) ?_
  refine lv_iconst (v := 1) hx hb dL_law_1129 (by decide) ?_
  refine lv_iadd hx hb dL_law_1130 ?_
  refine va_sld hx hb hX hbl hbA hS (lw_ix1 hi hL) dL_law_1131 ?_
  refine lv_aload_n hx hb dL_law_1132 rfl (lv_at hl 0 rfl) ?_
  refine lv_iload_n hx hb dL_law_1133 rfl (lv_at hl 3 rfl) ?_
  refine lv_iconst (v := 2) hx hb dL_law_1134 (by decide) ?_
  refine lv_iadd hx hb dL_law_1135 ?_
  refine va_sld hx hb hX hbl hbA hS (lw_ix2 hi hL) dL_law_1136 ?_
  refine lv_aload_n hx hb dL_law_1137 rfl (lv_at hl 0 rfl) ?_
  refine lv_iload_n hx hb dL_law_1138 rfl (lv_at hl 3 rfl) ?_
  refine lv_iconst (v := 3) hx hb dL_law_1139 (by decide) ?_
  refine lv_iadd hx hb dL_law_1140 ?_
  refine va_sld hx hb hX hbl hbA hS (lw_ix3 hi hL) dL_law_1141 ?_
  refine lv_aload_n hx hb dL_law_1142 rfl (lv_at hl 0 rfl) ?_
  refine lv_iload_n hx hb dL_law_1143 rfl (lv_at hl 3 rfl) ?_
  refine lv_iconst (v := 4) hx hb dL_law_1144 (by decide) ?_
  refine lv_iadd hx hb dL_law_1145 ?_
  refine va_sld hx hb hX hbl hbA hS (lw_ix4 hi hL) dL_law_1146 ?_
  refine va_calli (va_runV (As := [.int (xs (nI i + 1).toNatClampNeg), .int (xs (nI i + 2).toNatClampNeg), .int (xs (nI i + 3).toNatClampNeg), .int (xs (nI i + 4).toNatClampNeg)]) (rest := [.int r1]) ⟨hx, hb, hml, hown, hts⟩ (c_X11_stretch l E M S1 (xs (nI i + 1).toNatClampNeg) (xs (nI i + 2).toNatClampNeg) (xs (nI i + 3).toNatClampNeg) (xs (nI i + 4).toNatClampNeg) (iv_mc hI)) (cwV 4 hts gL_law_X11_stretch rfl rfl rfl (by decide +kernel) ⟨Nat.le_of_ble_eq_true rfl, Nat.le_of_ble_eq_true rfl⟩) (gP.V (ci := 10) (q := (RX11, TX11, 23)) (q0 := 0) hE hS hW rfl rfl) rfl rfl hl.1 rfl (lv_room (Nat.le_of_ble_eq_true rfl)) dL_law_1147 ⟨by show cells + 1 + 0 ≤ 600000; omega, by show slots + 7 + 0 ≤ 7302250; omega⟩) hS (fun _ _ h => h) (fun _ h => h) (fun r2 M1 t H locs ht9 hvm hw hB hzz hkk hS => ?_)
  obtain ⟨er2, eM1⟩ := prj hw
  clear hw
  have hW : gW E M1 S1 H := by rw [← ht9]; exact hB
  have hP := P_stretch hI (xs (nI i + 1).toNatClampNeg) (xs (nI i + 2).toNatClampNeg) (xs (nI i + 3).toNatClampNeg) (xs (nI i + 4).toNatClampNeg)
  refine lv_icmp_eq (tgt := 1290) hx hb dL_law_1150 (by decide) (fun c_1 => ?_) (fun c_1 => ?_)
  · refine kk M1 S1 H locs ?_ hW hS
    rw [eM1, eS1]
    exact hP.2
  · exact absurd (er1.trans (hP.1.trans er2.symm)) c_1
set_option maxHeartbeats 4000000 in
set_option maxRecDepth 100000 in
theorem lc_25 {p : Program} {l : Launch} {e : Env} {s : State} {m : MethodId} {below : List Frame} {meth : Method} {c : Code} {b L : Nat} {xs : Nat → Int32} (C0 : lw_At p s m meth c b L xs) (hts : ∀ w ∈ wsL_law, w.before #[Value.ref b] s = true) {E : gEE} (hE : gE E s) (hbA : ¬ eA E b) (hL : L ≤ 3584) {i : Nat} (hi : i + 7 ≤ L) {cells slots : Nat} (hc1 : cells + 1 ≤ 600000) (hs1 : slots + 7 ≤ 7302250) {M : gSm} {S : gSc} (hI : inv M S) {H : Heap} {locs : List Loc} (hW : gW E M S H) (hS : va_S (eA E) s.heap H locs) {ls : Array Slot} (hl : lv_has ls 4 [(0, .ref b), (1, .ref (eC E 0)), (2, .ref (eM E 0)), (3, .int (nI i))]) (kk : ∀ (M1 : gSm) (S1 : gSc) (H1 : Heap) (locs1 : List Loc), inv M1 S1 → gW E M1 S1 H1 → va_S (eA E) s.heap H1 locs1 → W p l e room_1 s m #[Value.ref b] below meth c H1 locs1 (cells + 1) (slots + 7) (lw_Z below #[Value.ref b] s) (F0 m 1290 ls [])) : W p l e room_1 s m #[Value.ref b] below meth c H locs cells slots (lw_Z below #[Value.ref b] s) (F0 m 1155 ls []) := by
  obtain ⟨hx, hb, hr, hml, hown, -, hX, hbl, hlocks, hgv⟩ := C0
  have hown : s.vm.findClass RL = some m.cls := hown
  refine lv_aload_n hx hb dL_law_1155 rfl (lv_at hl 1 rfl) ?_
  refine lv_aload_n hx hb dL_law_1156 rfl (lv_at hl 0 rfl) ?_
  refine lv_iload_n hx hb dL_law_1157 rfl (lv_at hl 3 rfl) ?_
  refine lv_iconst (v := 1) hx hb dL_law_1158 (by decide) ?_
  refine lv_iadd hx hb dL_law_1159 ?_
  refine va_sld hx hb hX hbl hbA hS (lw_ix1 hi hL) dL_law_1160 ?_
  refine lv_aload_n hx hb dL_law_1161 rfl (lv_at hl 0 rfl) ?_
  refine lv_iload_n hx hb dL_law_1162 rfl (lv_at hl 3 rfl) ?_
  refine lv_iconst (v := 2) hx hb dL_law_1163 (by decide) ?_
  refine lv_iadd hx hb dL_law_1164 ?_
  refine va_sld hx hb hX hbl hbA hS (lw_ix2 hi hL) dL_law_1165 ?_
  refine lv_aload_n hx hb dL_law_1166 rfl (lv_at hl 0 rfl) ?_
  refine lv_iload_n hx hb dL_law_1167 rfl (lv_at hl 3 rfl) ?_
  refine lv_iconst (v := 3) hx hb dL_law_1168 (by decide) ?_
  refine lv_iadd hx hb dL_law_1169 ?_
  refine va_sld hx hb hX hbl hbA hS (lw_ix3 hi hL) dL_law_1170 ?_
  refine lv_aload_n hx hb dL_law_1171 rfl (lv_at hl 0 rfl) ?_
  refine lv_iload_n hx hb dL_law_1172 rfl (lv_at hl 3 rfl) ?_
  refine lv_iconst (v := 4) hx hb dL_law_1173 (by decide) ?_
  refine lv_iadd hx hb dL_law_1174 ?_
  refine va_sld hx hb hX hbl hbA hS (lw_ix4 hi hL) dL_law_1175 ?_
  refine va_calli (va_runV (As := [.int (xs (nI i + 1).toNatClampNeg), .int (xs (nI i + 2).toNatClampNeg), .int (xs (nI i + 3).toNatClampNeg), .int (xs (nI i + 4).toNatClampNeg)]) (rest := []) ⟨hx, hb, hml, hown, hts⟩ (c_X10_sight l E M S (xs (nI i + 1).toNatClampNeg) (xs (nI i + 2).toNatClampNeg) (xs (nI i + 3).toNatClampNeg) (xs (nI i + 4).toNatClampNeg) (iv_s0 hI)) (cwV 4 hts gL_law_X10_sight rfl rfl rfl (by decide +kernel) ⟨Nat.le_of_ble_eq_true rfl, Nat.le_of_ble_eq_true rfl⟩) (gP.V (ci := 9) (q := (RX10, TX10, 12)) (q0 := 11) hE hS hW rfl rfl) rfl rfl hl.1 rfl (lv_room (Nat.le_of_ble_eq_true rfl)) dL_law_1176 ⟨by show cells + 0 ≤ 600000; omega, by show slots + 0 ≤ 7302250; omega⟩) hS (fun _ _ h => h) (fun _ h => h) (fun r1 S1 t H locs ht9 hvm hw hB hzz hkk hS => ?_)
  obtain ⟨er1, eS1⟩ := prj hw
  clear hw
  refine W.widen (k := cells + 1) (n := slots + 7) (by show cells + 0 ≤ cells + 1; omega) (by show slots + 0 ≤ slots + 7; omega) ?_
  have hW : gW E M S1 H := by rw [← ht9]; exact hB
  refine lv_aload_n hx hb dL_law_1179 rfl (lv_at hl 2 rfl) ?_
  refine lv_aload_n hx hb dL_law_1180 rfl (lv_at hl 0 rfl) ?_
  refine lv_iload_n hx hb dL_law_1181 rfl (lv_at hl 3 rfl) ?_
  refine lv_iconst (v := 1) hx hb dL_law_1182 (by decide) ?_
  refine lv_iadd hx hb dL_law_1183 ?_
  refine va_sld hx hb hX hbl hbA hS (lw_ix1 hi hL) dL_law_1184 ?_
  refine lv_aload_n hx hb dL_law_1185 rfl (lv_at hl 0 rfl) ?_
  refine lv_iload_n hx hb dL_law_1186 rfl (lv_at hl 3 rfl) ?_
  refine lv_iconst (v := 2) hx hb dL_law_1187 (by decide) ?_
  refine lv_iadd hx hb dL_law_1188 ?_
  refine va_sld hx hb hX hbl hbA hS (lw_ix2 hi hL) dL_law_1189 ?_
  refine lv_aload_n hx hb dL_law_1190 rfl (lv_at hl 0 rfl) ?_
  refine lv_iload_n hx hb dL_law_1191 rfl (lv_at hl 3 rfl) ?_
  refine lv_iconst (v := 3) hx hb dL_law_1192 (by decide) ?_
  refine lv_iadd hx hb dL_law_1193 ?_
  refine va_sld hx hb hX hbl hbA hS (lw_ix3 hi hL) dL_law_1194 ?_
  refine lv_aload_n hx hb dL_law_1195 rfl (lv_at hl 0 rfl) ?_
  refine lv_iload_n hx hb dL_law_1196 rfl (lv_at hl 3 rfl) ?_
  refine lv_iconst (v := 4) hx hb dL_law_1197 (by decide) ?_
  refine lv_iadd hx hb dL_law_1198 ?_
  refine va_sld hx hb hX hbl hbA hS (lw_ix4 hi hL) dL_law_1199 ?_
  refine va_calli (va_runV (As := [.int (xs (nI i + 1).toNatClampNeg), .int (xs (nI i + 2).toNatClampNeg), .int (xs (nI i + 3).toNatClampNeg), .int (xs (nI i + 4).toNatClampNeg)]) (rest := [.int r1]) ⟨hx, hb, hml, hown, hts⟩ (c_X11_sight l E M S1 (xs (nI i + 1).toNatClampNeg) (xs (nI i + 2).toNatClampNeg) (xs (nI i + 3).toNatClampNeg) (xs (nI i + 4).toNatClampNeg) (iv_ms0 hI) (iv_ms hI)) (cwV 4 hts gL_law_X11_sight rfl rfl rfl (by decide +kernel) ⟨Nat.le_of_ble_eq_true rfl, Nat.le_of_ble_eq_true rfl⟩) (gP.V (ci := 10) (q := (RX11, TX11, 23)) (q0 := 0) hE hS hW rfl rfl) rfl rfl hl.1 rfl (lv_room (Nat.le_of_ble_eq_true rfl)) dL_law_1200 ⟨by show cells + 1 + 0 ≤ 600000; omega, by show slots + 7 + 0 ≤ 7302250; omega⟩) hS (fun _ _ h => h) (fun _ h => h) (fun r2 M1 t H locs ht9 hvm hw hB hzz hkk hS => ?_)
  obtain ⟨er2, eM1⟩ := prj hw
  clear hw
  have hW : gW E M1 S1 H := by rw [← ht9]; exact hB
  have hP := P_sight hI (xs (nI i + 1).toNatClampNeg) (xs (nI i + 2).toNatClampNeg) (xs (nI i + 3).toNatClampNeg) (xs (nI i + 4).toNatClampNeg)
  refine lv_icmp_eq (tgt := 1290) hx hb dL_law_1203 (by decide) (fun c_1 => ?_) (fun c_1 => ?_)
  · refine kk M1 S1 H locs ?_ hW hS
    rw [eM1, eS1]
    exact hP.2
  · exact absurd (er1.trans (hP.1.trans er2.symm)) c_1
set_option maxHeartbeats 4000000 in
set_option maxRecDepth 100000 in
theorem lc_26 {p : Program} {l : Launch} {e : Env} {s : State} {m : MethodId} {below : List Frame} {meth : Method} {c : Code} {b L : Nat} {xs : Nat → Int32} (C0 : lw_At p s m meth c b L xs) (hts : ∀ w ∈ wsL_law, w.before #[Value.ref b] s = true) {E : gEE} (hE : gE E s) (hbA : ¬ eA E b) (hL : L ≤ 3584) {i : Nat} (hi : i + 7 ≤ L) {cells slots : Nat} (hc1 : cells + 1 ≤ 600000) (hs1 : slots + 7 ≤ 7302250) {M : gSm} {S : gSc} (hI : inv M S) {H : Heap} {locs : List Loc} (hW : gW E M S H) (hS : va_S (eA E) s.heap H locs) {ls : Array Slot} (hl : lv_has ls 4 [(0, .ref b), (1, .ref (eC E 0)), (2, .ref (eM E 0)), (3, .int (nI i))]) (kk : ∀ (M1 : gSm) (S1 : gSc) (H1 : Heap) (locs1 : List Loc), inv M1 S1 → gW E M1 S1 H1 → va_S (eA E) s.heap H1 locs1 → W p l e room_1 s m #[Value.ref b] below meth c H1 locs1 (cells + 1) (slots + 7) (lw_Z below #[Value.ref b] s) (F0 m 1290 ls [])) : W p l e room_1 s m #[Value.ref b] below meth c H locs cells slots (lw_Z below #[Value.ref b] s) (F0 m 1208 ls []) := by
  obtain ⟨hx, hb, hr, hml, hown, -, hX, hbl, hlocks, hgv⟩ := C0
  have hown : s.vm.findClass RL = some m.cls := hown
  refine lv_aload_n hx hb dL_law_1208 rfl (lv_at hl 1 rfl) ?_
  refine va_calli (va_runV (As := []) (rest := []) ⟨hx, hb, hml, hown, hts⟩ (c_X10_forget l E M S  ) (cwV 0 hts gL_law_X10_forget rfl rfl rfl (by decide +kernel) ⟨Nat.le_of_ble_eq_true rfl, Nat.le_of_ble_eq_true rfl⟩) (gP.V (ci := 9) (q := (RX10, TX10, 12)) (q0 := 11) hE hS hW rfl rfl) rfl rfl hl.1 rfl (lv_room (Nat.le_of_ble_eq_true rfl)) dL_law_1209 ⟨by show cells + 0 ≤ 600000; omega, by show slots + 0 ≤ 7302250; omega⟩) hS (fun _ _ h => h) (fun _ h => h) (fun r1 S1 t H locs ht9 hvm hw hB hzz hkk hS => ?_)
  obtain ⟨er1, eS1⟩ := prj hw
  clear hw
  refine W.widen (k := cells + 1) (n := slots + 7) (by show cells + 0 ≤ cells + 1; omega) (by show slots + 0 ≤ slots + 7; omega) ?_
  have hW : gW E M S1 H := by rw [← ht9]; exact hB
  refine lv_aload_n hx hb dL_law_1212 rfl (lv_at hl 2 rfl) ?_
  refine va_calli (va_runV (As := []) (rest := [.int r1]) ⟨hx, hb, hml, hown, hts⟩ (c_X11_forget l E M S1  ) (cwV 0 hts gL_law_X11_forget rfl rfl rfl (by decide +kernel) ⟨Nat.le_of_ble_eq_true rfl, Nat.le_of_ble_eq_true rfl⟩) (gP.V (ci := 10) (q := (RX11, TX11, 23)) (q0 := 0) hE hS hW rfl rfl) rfl rfl hl.1 rfl (lv_room (Nat.le_of_ble_eq_true rfl)) dL_law_1213 ⟨by show cells + 1 + 0 ≤ 600000; omega, by show slots + 7 + 0 ≤ 7302250; omega⟩) hS (fun _ _ h => h) (fun _ h => h) (fun r2 M1 t H locs ht9 hvm hw hB hzz hkk hS => ?_)
  obtain ⟨er2, eM1⟩ := prj hw
  clear hw
  have hW : gW E M1 S1 H := by rw [← ht9]; exact hB
  have hP := P_forget hI 
  refine lv_icmp_eq (tgt := 1290) hx hb dL_law_1216 (by decide) (fun c_1 => ?_) (fun c_1 => ?_)
  · refine kk M1 S1 H locs ?_ hW hS
    rw [eM1, eS1]
    exact hP.2
  · exact absurd (er1.trans (hP.1.trans er2.symm)) c_1
set_option maxHeartbeats 4000000 in
set_option maxRecDepth 100000 in
theorem lc_27 {p : Program} {l : Launch} {e : Env} {s : State} {m : MethodId} {below : List Frame} {meth : Method} {c : Code} {b L : Nat} {xs : Nat → Int32} (C0 : lw_At p s m meth c b L xs) (hts : ∀ w ∈ wsL_law, w.before #[Value.ref b] s = true) {E : gEE} (hE : gE E s) (hbA : ¬ eA E b) (hL : L ≤ 3584) {i : Nat} (hi : i + 7 ≤ L) {cells slots : Nat} (hc1 : cells + 1 ≤ 600000) (hs1 : slots + 7 ≤ 7302250) {M : gSm} {S : gSc} (hI : inv M S) {H : Heap} {locs : List Loc} (hW : gW E M S H) (hS : va_S (eA E) s.heap H locs) {ls : Array Slot} (hl : lv_has ls 4 [(0, .ref b), (1, .ref (eC E 0)), (2, .ref (eM E 0)), (3, .int (nI i))]) (kk : ∀ (M1 : gSm) (S1 : gSc) (H1 : Heap) (locs1 : List Loc), inv M1 S1 → gW E M1 S1 H1 → va_S (eA E) s.heap H1 locs1 → W p l e room_1 s m #[Value.ref b] below meth c H1 locs1 (cells + 1) (slots + 7) (lw_Z below #[Value.ref b] s) (F0 m 1290 ls [])) : W p l e room_1 s m #[Value.ref b] below meth c H locs cells slots (lw_Z below #[Value.ref b] s) (F0 m 1221 ls []) := by
  obtain ⟨hx, hb, hr, hml, hown, -, hX, hbl, hlocks, hgv⟩ := C0
  have hown : s.vm.findClass RL = some m.cls := hown
  refine lv_aload_n hx hb dL_law_1221 rfl (lv_at hl 1 rfl) ?_
  refine lv_aload_n hx hb dL_law_1222 rfl (lv_at hl 0 rfl) ?_
  refine lv_iload_n hx hb dL_law_1223 rfl (lv_at hl 3 rfl) ?_
  refine lv_iconst (v := 1) hx hb dL_law_1224 (by decide) ?_
  refine lv_iadd hx hb dL_law_1225 ?_
  refine va_sld hx hb hX hbl hbA hS (lw_ix1 hi hL) dL_law_1226 ?_
  refine va_calli (va_runV (As := [.int (xs (nI i + 1).toNatClampNeg)]) (rest := []) ⟨hx, hb, hml, hown, hts⟩ (c_X10_found l E M S (xs (nI i + 1).toNatClampNeg) (iv_T hI) (iv_H hI) (iv_kn0 hI) (iv_kn hI) (iv_s0 hI) (iv_s hI)) (cwV 1 hts gL_law_X10_found rfl rfl rfl (by decide +kernel) ⟨Nat.le_of_ble_eq_true rfl, Nat.le_of_ble_eq_true rfl⟩) (gP.V (ci := 9) (q := (RX10, TX10, 12)) (q0 := 11) hE hS hW rfl rfl) rfl rfl hl.1 rfl (lv_room (Nat.le_of_ble_eq_true rfl)) dL_law_1227 ⟨by show cells + 0 ≤ 600000; omega, by show slots + 0 ≤ 7302250; omega⟩) hS (fun _ _ h => h) (fun _ h => h) (fun r1 S1 t H locs ht9 hvm hw hB hzz hkk hS => ?_)
  obtain ⟨er1, eS1⟩ := prj hw
  clear hw
  refine W.widen (k := cells + 1) (n := slots + 7) (by show cells + 0 ≤ cells + 1; omega) (by show slots + 0 ≤ slots + 7; omega) ?_
  have hW : gW E M S1 H := by rw [← ht9]; exact hB
  refine lv_aload_n hx hb dL_law_1230 rfl (lv_at hl 2 rfl) ?_
  refine lv_aload_n hx hb dL_law_1231 rfl (lv_at hl 0 rfl) ?_
  refine lv_iload_n hx hb dL_law_1232 rfl (lv_at hl 3 rfl) ?_
  refine lv_iconst (v := 1) hx hb dL_law_1233 (by decide) ?_
  refine lv_iadd hx hb dL_law_1234 ?_
  refine va_sld hx hb hX hbl hbA hS (lw_ix1 hi hL) dL_law_1235 ?_
  refine va_calli (va_runV (As := [.int (xs (nI i + 1).toNatClampNeg)]) (rest := [.int r1]) ⟨hx, hb, hml, hown, hts⟩ (c_X11_found l E M S1 (xs (nI i + 1).toNatClampNeg) (iv_mc hI) (iv_ms0 hI) (iv_ms hI) (iv_msd hI)) (cwV 1 hts gL_law_X11_found rfl rfl rfl (by decide +kernel) ⟨Nat.le_of_ble_eq_true rfl, Nat.le_of_ble_eq_true rfl⟩) (gP.V (ci := 10) (q := (RX11, TX11, 23)) (q0 := 0) hE hS hW rfl rfl) rfl rfl hl.1 rfl (lv_room (Nat.le_of_ble_eq_true rfl)) dL_law_1236 ⟨by show cells + 1 + 0 ≤ 600000; omega, by show slots + 7 + 0 ≤ 7302250; omega⟩) hS (fun _ _ h => h) (fun _ h => h) (fun r2 M1 t H locs ht9 hvm hw hB hzz hkk hS => ?_)
  obtain ⟨er2, eM1⟩ := prj hw
  clear hw
  have hW : gW E M1 S1 H := by rw [← ht9]; exact hB
  have hP := P_found hI (xs (nI i + 1).toNatClampNeg)
  refine lv_icmp_eq (tgt := 1290) hx hb dL_law_1239 (by decide) (fun c_1 => ?_) (fun c_1 => ?_)
  · refine kk M1 S1 H locs ?_ hW hS
    rw [eM1, eS1]
    exact hP.2
  · exact absurd (er1.trans (hP.1.trans er2.symm)) c_1
set_option maxHeartbeats 4000000 in
set_option maxRecDepth 100000 in
theorem lc_28 {p : Program} {l : Launch} {e : Env} {s : State} {m : MethodId} {below : List Frame} {meth : Method} {c : Code} {b L : Nat} {xs : Nat → Int32} (C0 : lw_At p s m meth c b L xs) (hts : ∀ w ∈ wsL_law, w.before #[Value.ref b] s = true) {E : gEE} (hE : gE E s) (hbA : ¬ eA E b) (hL : L ≤ 3584) {i : Nat} (hi : i + 7 ≤ L) {cells slots : Nat} (hc1 : cells + 1 ≤ 600000) (hs1 : slots + 7 ≤ 7302250) {M : gSm} {S : gSc} (hI : inv M S) {H : Heap} {locs : List Loc} (hW : gW E M S H) (hS : va_S (eA E) s.heap H locs) {ls : Array Slot} (hl : lv_has ls 4 [(0, .ref b), (1, .ref (eC E 0)), (2, .ref (eM E 0)), (3, .int (nI i))]) (kk : ∀ (M1 : gSm) (S1 : gSc) (H1 : Heap) (locs1 : List Loc), inv M1 S1 → gW E M1 S1 H1 → va_S (eA E) s.heap H1 locs1 → W p l e room_1 s m #[Value.ref b] below meth c H1 locs1 (cells + 1) (slots + 7) (lw_Z below #[Value.ref b] s) (F0 m 1290 ls [])) : W p l e room_1 s m #[Value.ref b] below meth c H locs cells slots (lw_Z below #[Value.ref b] s) (F0 m 1244 ls []) := by
  obtain ⟨hx, hb, hr, hml, hown, -, hX, hbl, hlocks, hgv⟩ := C0
  have hown : s.vm.findClass RL = some m.cls := hown
  refine lv_aload_n hx hb dL_law_1244 rfl (lv_at hl 1 rfl) ?_
  refine lv_aload_n hx hb dL_law_1245 rfl (lv_at hl 0 rfl) ?_
  refine lv_iload_n hx hb dL_law_1246 rfl (lv_at hl 3 rfl) ?_
  refine lv_iconst (v := 1) hx hb dL_law_1247 (by decide) ?_
  refine lv_iadd hx hb dL_law_1248 ?_
  refine va_sld hx hb hX hbl hbA hS (lw_ix1 hi hL) dL_law_1249 ?_
  refine k_Si (va_runV (As := [.int (xs (nI i + 1).toNatClampNeg)]) (rest := []) ⟨hx, hb, hml, hown, hts⟩ (c_X10_turn l E M S (xs (nI i + 1).toNatClampNeg) (iv_t0 hI) (iv_t hI)) (cwV 1 hts gL_law_X10_turn rfl rfl rfl (by decide +kernel) ⟨Nat.le_of_ble_eq_true rfl, Nat.le_of_ble_eq_true rfl⟩) (gP.V (ci := 9) (q := (RX10, TX10, 12)) (q0 := 11) hE hS hW rfl rfl) rfl rfl hl.1 rfl (lv_room (Nat.le_of_ble_eq_true rfl)) dL_law_1250 ⟨by show cells + 0 ≤ 600000; omega, by show slots + 0 ≤ 7302250; omega⟩) (fun r1 er1 => ?_)
  refine lv_aload_n hx hb dL_law_1253 rfl (lv_at hl 2 rfl) ?_
  refine lv_aload_n hx hb dL_law_1254 rfl (lv_at hl 0 rfl) ?_
  refine lv_iload_n hx hb dL_law_1255 rfl (lv_at hl 3 rfl) ?_
  refine lv_iconst (v := 1) hx hb dL_law_1256 (by decide) ?_
  refine lv_iadd hx hb dL_law_1257 ?_
  refine va_sld hx hb hX hbl hbA hS (lw_ix1 hi hL) dL_law_1258 ?_
  refine k_Si (va_runV (As := [.int (xs (nI i + 1).toNatClampNeg)]) (rest := [.int r1]) ⟨hx, hb, hml, hown, hts⟩ (c_X11_turn l E M S (xs (nI i + 1).toNatClampNeg) (iv_mt0 hI) (iv_mt hI)) (cwV 1 hts gL_law_X11_turn rfl rfl rfl (by decide +kernel) ⟨Nat.le_of_ble_eq_true rfl, Nat.le_of_ble_eq_true rfl⟩) (gP.V (ci := 10) (q := (RX11, TX11, 23)) (q0 := 0) hE hS hW rfl rfl) rfl rfl hl.1 rfl (lv_room (Nat.le_of_ble_eq_true rfl)) dL_law_1259 ⟨by show cells + 0 ≤ 600000; omega, by show slots + 0 ≤ 7302250; omega⟩) (fun r2 er2 => ?_)
  have hP := P_turn hI (xs (nI i + 1).toNatClampNeg)
  refine lv_icmp_eq (tgt := 1290) hx hb dL_law_1262 (by decide) (fun c_1 => ?_) (fun c_1 => ?_)
  · exact W.widen (k := cells + 1) (n := slots + 7) (Nat.le_add_right _ _) (Nat.le_add_right _ _) (kk M S H locs hI hW hS)
  · exact absurd (er1.trans (hP.trans er2.symm)) c_1
set_option maxHeartbeats 4000000 in
set_option maxRecDepth 100000 in
theorem lc_29 {p : Program} {l : Launch} {e : Env} {s : State} {m : MethodId} {below : List Frame} {meth : Method} {c : Code} {b L : Nat} {xs : Nat → Int32} (C0 : lw_At p s m meth c b L xs) (hts : ∀ w ∈ wsL_law, w.before #[Value.ref b] s = true) {E : gEE} (hE : gE E s) (hbA : ¬ eA E b) (hL : L ≤ 3584) {i : Nat} (hi : i + 7 ≤ L) {cells slots : Nat} (hc1 : cells + 1 ≤ 600000) (hs1 : slots + 7 ≤ 7302250) {M : gSm} {S : gSc} (hI : inv M S) {H : Heap} {locs : List Loc} (hW : gW E M S H) (hS : va_S (eA E) s.heap H locs) {ls : Array Slot} (hl : lv_has ls 4 [(0, .ref b), (1, .ref (eC E 0)), (2, .ref (eM E 0)), (3, .int (nI i))]) (kk : ∀ (M1 : gSm) (S1 : gSc) (H1 : Heap) (locs1 : List Loc), inv M1 S1 → gW E M1 S1 H1 → va_S (eA E) s.heap H1 locs1 → W p l e room_1 s m #[Value.ref b] below meth c H1 locs1 (cells + 1) (slots + 7) (lw_Z below #[Value.ref b] s) (F0 m 1290 ls [])) : W p l e room_1 s m #[Value.ref b] below meth c H locs cells slots (lw_Z below #[Value.ref b] s) (F0 m 1267 ls []) := by
  obtain ⟨hx, hb, hr, hml, hown, -, hX, hbl, hlocks, hgv⟩ := C0
  have hown : s.vm.findClass RL = some m.cls := hown
  refine lv_aload_n hx hb dL_law_1267 rfl (lv_at hl 1 rfl) ?_
  refine lv_aload_n hx hb dL_law_1268 rfl (lv_at hl 0 rfl) ?_
  refine lv_iload_n hx hb dL_law_1269 rfl (lv_at hl 3 rfl) ?_
  refine lv_iconst (v := 1) hx hb dL_law_1270 (by decide) ?_
  refine lv_iadd hx hb dL_law_1271 ?_
  refine va_sld hx hb hX hbl hbA hS (lw_ix1 hi hL) dL_law_1272 ?_
  refine k_Si (va_runV (As := [.int (xs (nI i + 1).toNatClampNeg)]) (rest := []) ⟨hx, hb, hml, hown, hts⟩ (c_X10_count l E M S (xs (nI i + 1).toNatClampNeg) (iv_T hI)) (cwV 1 hts gL_law_X10_count rfl rfl rfl (by decide +kernel) ⟨Nat.le_of_ble_eq_true rfl, Nat.le_of_ble_eq_true rfl⟩) (gP.V (ci := 9) (q := (RX10, TX10, 12)) (q0 := 11) hE hS hW rfl rfl) rfl rfl hl.1 rfl (lv_room (Nat.le_of_ble_eq_true rfl)) dL_law_1273 ⟨by show cells + 0 ≤ 600000; omega, by show slots + 0 ≤ 7302250; omega⟩) (fun r1 er1 => ?_)
  refine lv_aload_n hx hb dL_law_1276 rfl (lv_at hl 2 rfl) ?_
  refine lv_aload_n hx hb dL_law_1277 rfl (lv_at hl 0 rfl) ?_
  refine lv_iload_n hx hb dL_law_1278 rfl (lv_at hl 3 rfl) ?_
  refine lv_iconst (v := 1) hx hb dL_law_1279 (by decide) ?_
  refine lv_iadd hx hb dL_law_1280 ?_
  refine va_sld hx hb hX hbl hbA hS (lw_ix1 hi hL) dL_law_1281 ?_
  refine k_Si (va_runV (As := [.int (xs (nI i + 1).toNatClampNeg)]) (rest := [.int r1]) ⟨hx, hb, hml, hown, hts⟩ (c_X11_count l E M S (xs (nI i + 1).toNatClampNeg) ) (cwV 1 hts gL_law_X11_count rfl rfl rfl (by decide +kernel) ⟨Nat.le_of_ble_eq_true rfl, Nat.le_of_ble_eq_true rfl⟩) (gP.V (ci := 10) (q := (RX11, TX11, 23)) (q0 := 0) hE hS hW rfl rfl) rfl rfl hl.1 rfl (lv_room (Nat.le_of_ble_eq_true rfl)) dL_law_1282 ⟨by show cells + 0 ≤ 600000; omega, by show slots + 0 ≤ 7302250; omega⟩) (fun r2 er2 => ?_)
  have hP := P_count hI (xs (nI i + 1).toNatClampNeg)
  refine lv_icmp_eq (tgt := 1290) hx hb dL_law_1285 (by decide) (fun c_1 => ?_) (fun c_1 => ?_)
  · exact W.widen (k := cells + 1) (n := slots + 7) (Nat.le_add_right _ _) (Nat.le_add_right _ _) (kk M S H locs hI hW hS)
  · exact absurd (er1.trans (hP.trans er2.symm)) c_1
