theorem lw_end {i L : Nat} (hL : L ≤ 3584) (hi : i ≤ L + 7) (h : ¬ Int32.ofNat L - 7 < nI i) : i + 7 ≤ L := by
  have h1 := i_nlt h
  have e1 : (Int32.ofNat L).toInt = (L : Int) := nI_toInt (by omega)
  have e7 : (7 : Int32).toInt = 7 := by decide
  rw [i_sub (by rw [e1, e7]; omega) (by rw [e1, e7]; omega), e1, e7, nI_toInt (by omega)] at h1
  omega
theorem lw_sw {x : Int32} (h : ∀ k : Nat, k < 30 → ¬ x = nI k) : x.toInt < 0 ∨ 29 < x.toInt := by
  by_cases h0 : x.toInt < 0
  · exact Or.inl h0
  · by_cases h1 : 29 < x.toInt
    · exact Or.inr h1
    · exact absurd (Int32.toInt_inj.mp (by rw [nI_toInt (by omega)]; omega)) (h x.toInt.toNat (by omega))
set_option maxHeartbeats 4000000 in
set_option maxRecDepth 100000 in
theorem lc_at {p : Program} {l : Launch} {e : Env} {s : State} {m : MethodId} {below : List Frame} {meth : Method} {c : Code} {b L : Nat} {xs : Nat → Int32} (C0 : lw_At p s m meth c b L xs) (hts : ∀ w ∈ wsL_law, w.before #[Value.ref b] s = true) {E : gEE} (hE : gE E s) (hbA : ¬ eA E b) (hL : L ≤ 3584) {i : Nat} (hi : i + 7 ≤ L) {cells slots : Nat} (hc1 : cells + 1 ≤ 600000) (hs1 : slots + 7 ≤ 7302250) {M : gSm} {S : gSc} (hI : inv M S) {H : Heap} {locs : List Loc} (hW : gW E M S H) (hS : va_S (eA E) s.heap H locs) {ls : Array Slot} (hl : lv_has ls 4 [(0, .ref b), (1, .ref (eC E 0)), (2, .ref (eM E 0)), (3, .int (nI i))]) (kk : ∀ (M1 : gSm) (S1 : gSc) (H1 : Heap) (locs1 : List Loc), inv M1 S1 → gW E M1 S1 H1 → va_S (eA E) s.heap H1 locs1 → W p l e room_1 s m #[Value.ref b] below meth c H1 locs1 (cells + 1) (slots + 7) (lw_Z below #[Value.ref b] s) (F0 m 1290 ls [])) {x : Int32} : W p l e room_1 s m #[Value.ref b] below meth c H locs cells slots (lw_Z below #[Value.ref b] s) (F0 m 33 ls [.int x]) := by
  obtain ⟨hx, hb, hr, hml, hown, -, hX, hbl, hlocks, hgv⟩ := id C0
  by_cases c0 : x = 0
  · refine lv_tableIn (tgt := 168) (off := 135) hx hb dL_law_33 (by rw [c0]; decide) (by rw [c0]; decide) (by rw [c0]; rfl) (by decide) ?_
    exact lc_0 C0 hts hE hbA hL hi hc1 hs1 hI hW hS hl kk
  by_cases c1 : x = 1
  · refine lv_tableIn (tgt := 191) (off := 158) hx hb dL_law_33 (by rw [c1]; decide) (by rw [c1]; decide) (by rw [c1]; rfl) (by decide) ?_
    exact lc_1 C0 hts hE hbA hL hi hc1 hs1 hI hW hS hl kk
  by_cases c2 : x = 2
  · refine lv_tableIn (tgt := 214) (off := 181) hx hb dL_law_33 (by rw [c2]; decide) (by rw [c2]; decide) (by rw [c2]; rfl) (by decide) ?_
    exact lc_2 C0 hts hE hbA hL hi hc1 hs1 hI hW hS hl kk
  by_cases c3 : x = 3
  · refine lv_tableIn (tgt := 237) (off := 204) hx hb dL_law_33 (by rw [c3]; decide) (by rw [c3]; decide) (by rw [c3]; rfl) (by decide) ?_
    exact lc_3 C0 hts hE hbA hL hi hc1 hs1 hI hW hS hl kk
  by_cases c4 : x = 4
  · refine lv_tableIn (tgt := 270) (off := 237) hx hb dL_law_33 (by rw [c4]; decide) (by rw [c4]; decide) (by rw [c4]; rfl) (by decide) ?_
    exact lc_4 C0 hts hE hbA hL hi hc1 hs1 hI hW hS hl kk
  by_cases c5 : x = 5
  · refine lv_tableIn (tgt := 313) (off := 280) hx hb dL_law_33 (by rw [c5]; decide) (by rw [c5]; decide) (by rw [c5]; rfl) (by decide) ?_
    exact lc_5 C0 hts hE hbA hL hi hc1 hs1 hI hW hS hl kk
  by_cases c6 : x = 6
  · refine lv_tableIn (tgt := 356) (off := 323) hx hb dL_law_33 (by rw [c6]; decide) (by rw [c6]; decide) (by rw [c6]; rfl) (by decide) ?_
    exact lc_6 C0 hts hE hbA hL hi hc1 hs1 hI hW hS hl kk
  by_cases c7 : x = 7
  · refine lv_tableIn (tgt := 419) (off := 386) hx hb dL_law_33 (by rw [c7]; decide) (by rw [c7]; decide) (by rw [c7]; rfl) (by decide) ?_
    exact lc_7 C0 hts hE hbA hL hi hc1 hs1 hI hW hS hl kk
  by_cases c8 : x = 8
  · refine lv_tableIn (tgt := 514) (off := 481) hx hb dL_law_33 (by rw [c8]; decide) (by rw [c8]; decide) (by rw [c8]; rfl) (by decide) ?_
    exact lc_8 C0 hts hE hbA hL hi hc1 hs1 hI hW hS hl kk
  by_cases c9 : x = 9
  · refine lv_tableIn (tgt := 537) (off := 504) hx hb dL_law_33 (by rw [c9]; decide) (by rw [c9]; decide) (by rw [c9]; rfl) (by decide) ?_
    exact lc_9 C0 hts hE hbA hL hi hc1 hs1 hI hW hS hl kk
  by_cases c10 : x = 10
  · refine lv_tableIn (tgt := 580) (off := 547) hx hb dL_law_33 (by rw [c10]; decide) (by rw [c10]; decide) (by rw [c10]; rfl) (by decide) ?_
    exact lc_10 C0 hts hE hbA hL hi hc1 hs1 hI hW hS hl kk
  by_cases c11 : x = 11
  · refine lv_tableIn (tgt := 613) (off := 580) hx hb dL_law_33 (by rw [c11]; decide) (by rw [c11]; decide) (by rw [c11]; rfl) (by decide) ?_
    exact lc_11 C0 hts hE hbA hL hi hc1 hs1 hI hW hS hl kk
  by_cases c12 : x = 12
  · refine lv_tableIn (tgt := 646) (off := 613) hx hb dL_law_33 (by rw [c12]; decide) (by rw [c12]; decide) (by rw [c12]; rfl) (by decide) ?_
    exact lc_12 C0 hts hE hbA hL hi hc1 hs1 hI hW hS hl kk
  by_cases c13 : x = 13
  · refine lv_tableIn (tgt := 689) (off := 656) hx hb dL_law_33 (by rw [c13]; decide) (by rw [c13]; decide) (by rw [c13]; rfl) (by decide) ?_
    exact lc_13 C0 hts hE hbA hL hi hc1 hs1 hI hW hS hl kk
  by_cases c14 : x = 14
  · refine lv_tableIn (tgt := 712) (off := 679) hx hb dL_law_33 (by rw [c14]; decide) (by rw [c14]; decide) (by rw [c14]; rfl) (by decide) ?_
    exact lc_14 C0 hts hE hbA hL hi hc1 hs1 hI hW hS hl kk
  by_cases c15 : x = 15
  · refine lv_tableIn (tgt := 745) (off := 712) hx hb dL_law_33 (by rw [c15]; decide) (by rw [c15]; decide) (by rw [c15]; rfl) (by decide) ?_
    exact lc_15 C0 hts hE hbA hL hi hc1 hs1 hI hW hS hl kk
  by_cases c16 : x = 16
  · refine lv_tableIn (tgt := 778) (off := 745) hx hb dL_law_33 (by rw [c16]; decide) (by rw [c16]; decide) (by rw [c16]; rfl) (by decide) ?_
    exact lc_16 C0 hts hE hbA hL hi hc1 hs1 hI hW hS hl kk
  by_cases c17 : x = 17
  · refine lv_tableIn (tgt := 791) (off := 758) hx hb dL_law_33 (by rw [c17]; decide) (by rw [c17]; decide) (by rw [c17]; rfl) (by decide) ?_
    exact lc_17 C0 hts hE hbA hL hi hc1 hs1 hI hW hS hl kk
  by_cases c18 : x = 18
  · refine lv_tableIn (tgt := 834) (off := 801) hx hb dL_law_33 (by rw [c18]; decide) (by rw [c18]; decide) (by rw [c18]; rfl) (by decide) ?_
    exact lc_18 C0 hts hE hbA hL hi hc1 hs1 hI hW hS hl kk
  by_cases c19 : x = 19
  · refine lv_tableIn (tgt := 877) (off := 844) hx hb dL_law_33 (by rw [c19]; decide) (by rw [c19]; decide) (by rw [c19]; rfl) (by decide) ?_
    exact lc_19 C0 hts hE hbA hL hi hc1 hs1 hI hW hS hl kk
  by_cases c20 : x = 20
  · refine lv_tableIn (tgt := 930) (off := 897) hx hb dL_law_33 (by rw [c20]; decide) (by rw [c20]; decide) (by rw [c20]; rfl) (by decide) ?_
    exact lc_20 C0 hts hE hbA hL hi hc1 hs1 hI hW hS hl kk
  by_cases c21 : x = 21
  · refine lv_tableIn (tgt := 973) (off := 940) hx hb dL_law_33 (by rw [c21]; decide) (by rw [c21]; decide) (by rw [c21]; rfl) (by decide) ?_
    exact lc_21 C0 hts hE hbA hL hi hc1 hs1 hI hW hS hl kk
  by_cases c22 : x = 22
  · refine lv_tableIn (tgt := 1026) (off := 993) hx hb dL_law_33 (by rw [c22]; decide) (by rw [c22]; decide) (by rw [c22]; rfl) (by decide) ?_
    exact lc_22 C0 hts hE hbA hL hi hc1 hs1 hI hW hS hl kk
  by_cases c23 : x = 23
  · refine lv_tableIn (tgt := 1069) (off := 1036) hx hb dL_law_33 (by rw [c23]; decide) (by rw [c23]; decide) (by rw [c23]; rfl) (by decide) ?_
    exact lc_23 C0 hts hE hbA hL hi hc1 hs1 hI hW hS hl kk
  by_cases c24 : x = 24
  · refine lv_tableIn (tgt := 1102) (off := 1069) hx hb dL_law_33 (by rw [c24]; decide) (by rw [c24]; decide) (by rw [c24]; rfl) (by decide) ?_
    exact lc_24 C0 hts hE hbA hL hi hc1 hs1 hI hW hS hl kk
  by_cases c25 : x = 25
  · refine lv_tableIn (tgt := 1155) (off := 1122) hx hb dL_law_33 (by rw [c25]; decide) (by rw [c25]; decide) (by rw [c25]; rfl) (by decide) ?_
    exact lc_25 C0 hts hE hbA hL hi hc1 hs1 hI hW hS hl kk
  by_cases c26 : x = 26
  · refine lv_tableIn (tgt := 1208) (off := 1175) hx hb dL_law_33 (by rw [c26]; decide) (by rw [c26]; decide) (by rw [c26]; rfl) (by decide) ?_
    exact lc_26 C0 hts hE hbA hL hi hc1 hs1 hI hW hS hl kk
  by_cases c27 : x = 27
  · refine lv_tableIn (tgt := 1221) (off := 1188) hx hb dL_law_33 (by rw [c27]; decide) (by rw [c27]; decide) (by rw [c27]; rfl) (by decide) ?_
    exact lc_27 C0 hts hE hbA hL hi hc1 hs1 hI hW hS hl kk
  by_cases c28 : x = 28
  · refine lv_tableIn (tgt := 1244) (off := 1211) hx hb dL_law_33 (by rw [c28]; decide) (by rw [c28]; decide) (by rw [c28]; rfl) (by decide) ?_
    exact lc_28 C0 hts hE hbA hL hi hc1 hs1 hI hW hS hl kk
  by_cases c29 : x = 29
  · refine lv_tableIn (tgt := 1267) (off := 1234) hx hb dL_law_33 (by rw [c29]; decide) (by rw [c29]; decide) (by rw [c29]; rfl) (by decide) ?_
    exact lc_29 C0 hts hE hbA hL hi hc1 hs1 hI hW hS hl kk
  refine lv_tableOut (tgt := 1290) hx hb dL_law_33 (lw_sw (fun k hk => ?_)) (by decide) ?_
  · match k, hk with
    | 0, _ => exact c0
    | 1, _ => exact c1
    | 2, _ => exact c2
    | 3, _ => exact c3
    | 4, _ => exact c4
    | 5, _ => exact c5
    | 6, _ => exact c6
    | 7, _ => exact c7
    | 8, _ => exact c8
    | 9, _ => exact c9
    | 10, _ => exact c10
    | 11, _ => exact c11
    | 12, _ => exact c12
    | 13, _ => exact c13
    | 14, _ => exact c14
    | 15, _ => exact c15
    | 16, _ => exact c16
    | 17, _ => exact c17
    | 18, _ => exact c18
    | 19, _ => exact c19
    | 20, _ => exact c20
    | 21, _ => exact c21
    | 22, _ => exact c22
    | 23, _ => exact c23
    | 24, _ => exact c24
    | 25, _ => exact c25
    | 26, _ => exact c26
    | 27, _ => exact c27
    | 28, _ => exact c28
    | 29, _ => exact c29
    | k + 30, h => exact absurd h (by omega)
  · exact W.widen (k := cells + 1) (n := slots + 7) (Nat.le_add_right _ _) (Nat.le_add_right _ _) (kk M S H locs hI hW hS)
theorem nI_7 (i : Nat) : nI i + 7 = nI (i + 7) := nI_add i 7
set_option maxHeartbeats 4000000 in
set_option maxRecDepth 100000 in
theorem lw_loop {p : Program} {l : Launch} {e : Env} {s : State} {m : MethodId} {below : List Frame} {meth : Method} {c : Code} {b L : Nat} {xs : Nat → Int32} (C0 : lw_At p s m meth c b L xs) (hts : ∀ w ∈ wsL_law, w.before #[Value.ref b] s = true) {E : gEE} (hE : gE E s) (hbA : ¬ eA E b) (hL : L ≤ 3584) (hAs : ∀ q, eA E q → s.heap.size ≤ q) : ∀ (n i cells slots : Nat), i ≤ L + 7 → L + 8 ≤ i + n → cells ≤ 100 + i → slots ≤ 10000 + i → ∀ (M : gSm) (S : gSc), inv M S → ∀ (H : Heap) (locs : List Loc), gW E M S H → va_S (eA E) s.heap H locs → ∀ ls : Array Slot, lv_has ls 4 [(0, .ref b), (1, .ref (eC E 0)), (2, .ref (eM E 0)), (3, .int (nI i))] → W p l e room_1 s m #[Value.ref b] below meth c H locs cells slots (lw_Z below #[Value.ref b] s) (F0 m 18 ls []) := by
  obtain ⟨hx, hb, hr, hml, hown, -, hX, hbl, hlocks, hgv⟩ := id C0
  intro n
  induction n with
  | zero =>
    intro i cells slots h1 h2
    exact absurd h2 (by omega)
  | succ n ih =>
    intro i cells slots h1 h2 h3 h4 M S hI H locs hW hS ls hl
    refine lv_iload_n hx hb dL_law_18 rfl (lv_at hl 3 rfl) ?_
    refine lv_aload_n hx hb dL_law_19 rfl (lv_at hl 0 rfl) ?_
    refine va_slen hx hb hX hbl hbA hS dL_law_20 ?_
    refine lv_bipush (v := 7) hx hb dL_law_21 (by decide) ?_
    refine lv_isub hx hb dL_law_23 ?_
    refine lv_icmp_gt (tgt := 1296) hx hb dL_law_24 (by decide) (fun c_1 => ?_) (fun c_1 => ?_)
    · refine lv_iconst (v := 1) hx hb dL_law_1296 (by decide) ?_
      refine va_forget (fun q hq => hAs _ (hS.2.2 q hq)) ?_
      refine W.widen (k := 600000) (n := 7302250) (by omega) (by omega) ?_
      exact lw_ret hx hb hr hlocks dL_law_1297
    · have hi := lw_end hL h1 c_1
      refine lv_aload_n hx hb dL_law_27 rfl (lv_at hl 0 rfl) ?_
      refine lv_iload_n hx hb dL_law_28 rfl (lv_at hl 3 rfl) ?_
      refine va_sld hx hb hX hbl hbA hS (vp_in_nI (by omega) (by omega)) dL_law_29 ?_
      refine lv_bipush (v := 31) hx hb dL_law_30 (by decide) ?_
      refine lv_iand hx hb dL_law_32 ?_
      refine lc_at C0 hts hE hbA hL hi (by omega) (by omega) hI hW hS hl (fun M1 S1 H1 locs1 hI1 hW1 hS1 => ?_)
      refine lv_iinc (v := nI (i + 7)) (lv' := [(3, .int (nI (i + 7))), (0, .ref b), (1, .ref (eC E 0)), (2, .ref (eM E 0))]) hx hb dL_law_1290 hl (k := 3) rfl (nI_7 i) (by decide) rfl (fun ls hl => ?_)
      refine lv_goto (tgt := 18) hx hb dL_law_1293 (by decide) ?_
      exact ih (i + 7) (cells + 1) (slots + 7) (by omega) (by omega) (by omega) (by omega) M1 S1 hI1 H1 locs1 hW1 hS1 ls (lv_sub hl [1, 2, 3, 0] rfl)
