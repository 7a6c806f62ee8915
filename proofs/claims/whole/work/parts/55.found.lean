def q_X10_found_b53 (S : gSc) (p1 : Int32) : Nat → Nat → Int32 → gSc → Int32 × gSc
  | 0, v2, v3, Z => (0, Z)
  | n + 1, v2, v3, Z => (if (Z.1 17 4) ≤ v3 then (Z.1 0 7, Z) else (let S67 := q_X10_keepAgreeingTurns Z v2 v3; (let x70 := v3 + 1; q_X10_found_b53 S p1 n v2 x70 S67)))
def q_X10_found (S : gSc) (p1 : Int32) : Int32 × gSc := (let r1 := q_X10_isPlace p1; (if r1 = 0 then ((-2000000001), S) else (match q_X10_dialAt S p1 1 with | none => ((-2000000002), S) | some a13 => (if 3 ≤ (S.1 17 4) then (let S36 := q_X10_keepAllTurns S; (let S48 := q_X6_setUp S36 a13; q_X10_found_b53 S p1 21 a13 0 S48)) else ((-2000000002), S)))))
set_option maxHeartbeats 4000000 in
set_option maxRecDepth 100000 in
theorem c_X10_found (l : Launch) (E : gEE) (M : gSm) (S : gSc) (p1 : Int32) (hT : okR S 3 40) (hH : okH S) (hkn0 : 0 ≤ (S.1 1 1).toInt) (hkn : (S.1 1 1).toInt ≤ 366) (hs0 : 0 ≤ (S.1 17 4).toInt) (hs : (S.1 17 4).toInt ≤ 20) : Met l yX10_found wsX10_found ({ frames := 5, cells := 0, slots := 0, locals := 116 }) (va_Pc [.ref (eC E 0), .int (p1)] (gP E M S)) (va_Qi (fun r (u : gSc) => (r, u) = q_X10_found S p1) (fun u t => gW E M u t.heap) (eA E)) 0 0 (eA E) := by
  refine Met.ofW (cc := cX10_found) (maxL := 4) (ret := (some .int)) (by decide) rfl ?_
  intro p e s m args below meth c s₁ B hml hv
  obtain ⟨rfl, hE, hW⟩ := hv
  have hx := B.exec
  have hb := B.bytes
  have hr := B.returns
  have hts := atoms_spec (ws := wsX10_found) B.pre
  have hown : s.vm.findClass RX10 = some m.cls := findClass_of_methodNamed B.named
  have hlocks := B.notSynchronized
  have hinX10 : ∀ w ∈ wsX100, w ∈ wsX10_found := by decide +kernel
  have hinX7 : ∀ w ∈ wsX70, w ∈ wsX10_found := by decide +kernel
  have hS : va_S (eA E) s.heap s.heap [] := va_S.rf
  have hl := lv_entry ([.ref (eC E 0), .int (p1)]) (n := 4) (Nat.le_of_ble_eq_true rfl)
  rw [lg_entry_eq]
  generalize (lg_sl ([.ref (eC E 0), .int (p1)]) ++ List.replicate (4 - (lg_sl ([.ref (eC E 0), .int (p1)])).length) Slot.unset).toArray = ls at hl ⊢
  have hl : lv_has ls 4 [(0, .ref (eC E 0)), (1, .int (p1))] := hl
  have hS : ∃ (H : Heap) (locs : List Loc), H = s.heap ∧ locs = [] ∧ gW E M S H ∧ va_S (eA E) s.heap H locs := ⟨_, _, rfl, rfl, hW, hS⟩
  clear hW
  obtain ⟨H, locs, eH, el, hW, hS⟩ := hS
  rw [← eH, ← el]
  clear eH el
  have L53 : ∀ n : Nat, ∀ (v2 : Nat) (v3 : Int32) (Z : gSc) (H : Heap) (locs : List Loc) (ls : Array Slot), (foI S n v3 Z ∧ v2 ∈ S.2.2.1 ∧ S.2.2.2.1 v2 = 1) → q_X10_found S p1 = q_X10_found_b53 S p1 n v2 v3 Z → gW E M Z H → va_S (eA E) s.heap H locs → lv_has ls 4 [(0, .ref (eC E 0)), (2, .ref (v2)), (3, .int (v3))] → W p l e (headSpec wsX10_found ({ frames := 5, cells := 0, slots := 0, locals := 116 })).room s m ([.ref (eC E 0), .int (p1)] : List Value).toArray below meth c H locs 0 0 (MQ below (va_Qi (fun r (u : gSc) => (r, u) = q_X10_found S p1) (fun u t => gW E M u t.heap) (eA E)) ([.ref (eC E 0), .int (p1)] : List Value).toArray s 0 0 (eA E)) (F0 m 53 ls []) := by
    intro n
    induction n with
    | zero =>
      intro v2 v3 Z H locs ls hi hq hW hS hl
      exact absurd hi.1.1.2.2 (by have := hi.1.1.2.1; omega)
    | succ n ih =>
      intro v2 v3 Z H locs ls hi hq hW hS hl
      have hpZ : Z.2.2 = S.2.2 := hi.1.2.1.2.2
      have hLv2 : v2 ∈ Z.2.2.1 := by rw [hpZ]; exact hi.2.1
      have hKv2 : Z.2.2.2.1 v2 = 1 := by rw [hpZ]; exact hi.2.2
      refine lv_iload_n hx hb dX10_found_53 rfl (lv_at hl 2 rfl) ?_
      refine lv_aload_n hx hb dX10_found_54 rfl (lv_at hl 0 rfl) ?_
      refine va_get (D := eD E) (cl := vwCl) (tys := eT E) (ci := 9) (C := RX10) (T := TX10) (N := 12) (v := .ref (eC E 17)) hx hb hts hinX10 hown hE.1 hW.1 11 rfl rfl 5 (by decide) (hts (.fieldLink RX10 46 "DialGarden" "sights" "LDialGarden$Sights;") (by decide +kernel)) (fun _ h9 => h9) rfl dX10_found_55 ?_
      refine va_getN (D := eD E) (cl := vwCl) (tys := eT E) (ci := 7) (C := RX7) (T := TX7) (N := 5) (v := .int (Z.1 17 4)) hx hb hts hinX7 hown hE.1 hW.1 28 rfl rfl 4 (by decide) (va_Nw.use rfl (hE.2.2.1 (.fieldLinkNest "DialGarden" 294 "DialGarden$Sights" "size" "I" "DialGarden") (by decide +kernel))) (fun _ h9 => h9) rfl dX10_found_58 ?_
      refine lv_icmp_ge (tgt := 76) hx hb dX10_found_61 (by decide) (fun c61 => ?_) (fun c61 => ?_)
      · refine lv_aload_n hx hb dX10_found_76 rfl (lv_at hl 0 rfl) ?_
        refine va_get (D := eD E) (cl := vwCl) (tys := eT E) (ci := 9) (C := RX10) (T := TX10) (N := 12) (v := .int (Z.1 0 7)) hx hb hts hinX10 hown hE.1 hW.1 11 rfl rfl 7 (by decide) (hts (.fieldLink RX10 54 "DialGarden" "turnCount" "I") (by decide +kernel)) (fun _ h9 => h9) rfl dX10_found_77 ?_
        exact W.iret (v := Z.1 0 7) hx hb hr (fun t ht _ => ⟨⟨Z.1 0 7, Z, rfl, by rw [hq]; first | (simp only [q_X10_found_b53, if_pos c61]; done) | contradiction, by dsimp only; rw [ht]; exact hW⟩, hS.F ht⟩) hS.2.2 dX10_found_80
      · refine lv_aload_n hx hb dX10_found_64 rfl (lv_at hl 0 rfl) ?_
        refine lv_aload_n hx hb dX10_found_65 rfl (lv_at hl 1 rfl) ?_
        refine lv_iload_n hx hb dX10_found_66 rfl (lv_at hl 2 rfl) ?_
        refine va_callv (va_runV (As := [.ref (v2), .int (v3)]) (rest := []) ⟨hx, hb, hml, hown, hts⟩ (c_X10_keepAgreeingTurns l E M Z v2 v3 hLv2 hKv2 hi.1.2.1.1.1 hi.1.2.1.1.2.1 hi.1.2.1.1.2.2 hi.1.2.1.2.1.1 hi.1.2.1.2.1.2 (by rw [hi.1.2.2.2]; exact hs0) (by rw [hi.1.2.2.2]; exact hs) hi.1.2.2.1.1 hi.1.2.2.1.2 hi.1.1.1 (by have := fo_lt hi.1 c61; omega)) (cwV 2 hts gX10_found_X10_keepAgreeingTurns rfl rfl rfl (by decide +kernel) ⟨Nat.le_of_ble_eq_true rfl, Nat.le_of_ble_eq_true rfl⟩) (gP.V (ci := 9) (q := (RX10, TX10, 12)) (q0 := 11) hE hS hW rfl rfl) rfl rfl hl.1 rfl (lv_room (Nat.le_of_ble_eq_true rfl)) dX10_found_67 ⟨Nat.le_of_ble_eq_true rfl, Nat.le_of_ble_eq_true rfl⟩) hS (fun _ _ h => h) (fun _ h => h) (fun S67 t H locs ht hvm hw hB hzz hkk hS => ?_)
        have eS67 : S67 = q_X10_keepAgreeingTurns Z v2 v3 := hw
        clear hw
        have hW : gW E M S67 H := by rw [← ht]; exact hB
        obtain ⟨x70, ex70⟩ : ∃ y : Int32, y = v3 + 1 := ⟨_, rfl⟩
        refine lv_iinc (v := x70) (lv' := [(3, .int (x70)), (0, .ref (eC E 0)), (2, .ref (v2))]) hx hb dX10_found_70 hl (k := 2) rfl (by rw [ex70]; rfl) (by decide) rfl (fun ls hl => ?_)
        refine lv_goto (tgt := 53) hx hb dX10_found_73 (by decide) ?_
        exact ih _ _ _ _ _ _ (by exact ⟨fo_st hi.1 c61 hs ex70 (by rw [eS67]; exact kt_all _ _ _ hi.1.2.2.1.1 hi.1.2.2.1.2), hi.2⟩) (by rw [hq]; subst ex70; first | (simp only [q_X10_found_b53, if_neg c61, ← eS67]; done) | contradiction) hW hS (lv_sub hl [1, 2, 0] rfl)
  refine lv_iload_n hx hb dX10_found_0 rfl (lv_at hl 1 rfl) ?_
  refine k_Si (va_runS (As := [.int (p1)]) (rest := []) ⟨hx, hb, hml, hown, hts⟩ (c_X10_isPlace l p1) (va_cwS 1 hts gX10_found_X10_isPlace rfl rfl rfl (by decide +kernel) ⟨Nat.le_of_ble_eq_true rfl, Nat.le_of_ble_eq_true rfl⟩) gP0 rfl rfl hl.1 rfl (lv_room (Nat.le_of_ble_eq_true rfl)) dX10_found_1 ⟨Nat.le_of_ble_eq_true rfl, Nat.le_of_ble_eq_true rfl⟩) (fun r1 er1 => ?_)
  refine lv_if_ne (tgt := 10) hx hb dX10_found_4 (by decide) (fun c4 => ?_) (fun c4 => ?_)
  · refine lv_aload_n hx hb dX10_found_10 rfl (lv_at hl 0 rfl) ?_
    refine lv_iload_n hx hb dX10_found_11 rfl (lv_at hl 1 rfl) ?_
    refine lv_iconst (v := 1) hx hb dX10_found_12 (by decide) ?_
    refine k_Sq (va_runV (As := [.int (p1), .int (1)]) (rest := []) ⟨hx, hb, hml, hown, hts⟩ (c_X10_dialAt l E M S p1 1 hT) (cwV 2 hts gX10_found_X10_dialAt rfl rfl rfl (by decide +kernel) ⟨Nat.le_of_ble_eq_true rfl, Nat.le_of_ble_eq_true rfl⟩) (gP.V (ci := 9) (q := (RX10, TX10, 12)) (q0 := 11) hE hS hW rfl rfl) rfl rfl hl.1 rfl (lv_room (Nat.le_of_ble_eq_true rfl)) dX10_found_13 ⟨Nat.le_of_ble_eq_true rfl, Nat.le_of_ble_eq_true rfl⟩) (fun r13 er13 => ?_)
    rcases r13 with _ | a13
    · refine lv_astore_nN (lv' := [(2, .null), (0, .ref (eC E 0)), (1, .int (p1))]) hx hb dX10_found_16 rfl hl (by decide) rfl (fun ls hl => ?_)
      refine lv_aload_nN hx hb dX10_found_17 rfl (lv_at hl 0 rfl) ?_
      refine lv_ifnullN (tgt := 32) hx hb dX10_found_18 (by decide) ?_
      refine lv_ldc hx hb (v := (-2000000002)) hown (hts (.constant RX10 176 (-2000000002)) (by decide +kernel)) dX10_found_32 ?_
      exact W.iret (v := (-2000000002)) hx hb hr (fun t ht _ => ⟨⟨(-2000000002), S, rfl, by subst er1; first | (simp only [q_X10_found, if_neg c4, ← er13]; done) | contradiction, by dsimp only; rw [ht]; exact hW⟩, hS.F ht⟩) hS.2.2 dX10_found_34
    · have hL13 := (da_of hT er13).1
      have hK13 := (da_of hT er13).2
      refine lv_astore_n (lv' := [(2, .ref (a13)), (0, .ref (eC E 0)), (1, .int (p1))]) hx hb dX10_found_16 rfl hl (by decide) rfl (fun ls hl => ?_)
      refine lv_aload_n hx hb dX10_found_17 rfl (lv_at hl 0 rfl) ?_
      refine lv_ifnull hx hb dX10_found_18 ?_
      refine lv_aload_n hx hb dX10_found_21 rfl (lv_at hl 1 rfl) ?_
      refine va_get (D := eD E) (cl := vwCl) (tys := eT E) (ci := 9) (C := RX10) (T := TX10) (N := 12) (v := .ref (eC E 17)) hx hb hts hinX10 hown hE.1 hW.1 11 rfl rfl 5 (by decide) (hts (.fieldLink RX10 46 "DialGarden" "sights" "LDialGarden$Sights;") (by decide +kernel)) (fun _ h9 => h9) rfl dX10_found_22 ?_
      refine va_getN (D := eD E) (cl := vwCl) (tys := eT E) (ci := 7) (C := RX7) (T := TX7) (N := 5) (v := .int (S.1 17 4)) hx hb hts hinX7 hown hE.1 hW.1 28 rfl rfl 4 (by decide) (va_Nw.use rfl (hE.2.2.1 (.fieldLinkNest "DialGarden" 294 "DialGarden$Sights" "size" "I" "DialGarden") (by decide +kernel))) (fun _ h9 => h9) rfl dX10_found_25 ?_
      refine lv_iconst (v := 3) hx hb dX10_found_28 (by decide) ?_
      refine lv_icmp_ge (tgt := 35) hx hb dX10_found_29 (by decide) (fun c29 => ?_) (fun c29 => ?_)
      · refine lv_aload_n hx hb dX10_found_35 rfl (lv_at hl 1 rfl) ?_
        refine va_callv (va_runV (As := []) (rest := []) ⟨hx, hb, hml, hown, hts⟩ (c_X10_keepAllTurns l E M S) (cwV 0 hts gX10_found_X10_keepAllTurns rfl rfl rfl (by decide +kernel) ⟨Nat.le_of_ble_eq_true rfl, Nat.le_of_ble_eq_true rfl⟩) (gP.V (ci := 9) (q := (RX10, TX10, 12)) (q0 := 11) hE hS hW rfl rfl) rfl rfl hl.1 rfl (lv_room (Nat.le_of_ble_eq_true rfl)) dX10_found_36 ⟨Nat.le_of_ble_eq_true rfl, Nat.le_of_ble_eq_true rfl⟩) hS (fun _ _ h => h) (fun _ h => h) (fun S36 t H locs ht hvm hw hB hzz hkk hS => ?_)
        have eS36 : S36 = q_X10_keepAllTurns S := hw
        clear hw
        have hW : gW E M S36 H := by rw [← ht]; exact hB
        have hpS36 : S36.2.2 = S.2.2 := by rw [eS36]; exact (qp_X10_keepAllTurns _)
        refine lv_aload_n hx hb dX10_found_39 rfl (lv_at hl 1 rfl) ?_
        refine va_get (D := eD E) (cl := vwCl) (tys := eT E) (ci := 9) (C := RX10) (T := TX10) (N := 12) (v := .ref (eC E 7)) hx hb hts hinX10 hown hE.1 hW.1 11 rfl rfl 3 (by decide) (hts (.fieldLink RX10 32 "DialGarden" "shade" "LDialGarden$Shade;") (by decide +kernel)) (fun _ h9 => h9) rfl dX10_found_40 ?_
        refine lv_aload_n hx hb dX10_found_43 rfl (lv_at hl 0 rfl) ?_
        refine lv_aload_n hx hb dX10_found_44 rfl (lv_at hl 1 rfl) ?_
        refine va_get (D := eD E) (cl := vwCl) (tys := eT E) (ci := 9) (C := RX10) (T := TX10) (N := 12) (v := .ref (eC E 3)) hx hb hts hinX10 hown hE.1 hW.1 11 rfl rfl 1 (by decide) (hts (.fieldLink RX10 18 "DialGarden" "things" "[LDialGarden$Thing;") (by decide +kernel)) (fun _ h9 => h9) rfl dX10_found_45 ?_
        refine va_callv (va_runV (As := [.ref (a13), .ref (eC E 3)]) (rest := []) ⟨hx, hb, hml, hown, hts⟩ (c_X6_setUp l E M S36 a13 (by rw [hpS36]; exact hL13) (by rw [hpS36]; exact hK13) (okR_of hT (by rw [eS36]; exact ka_2 S))) (cwV 2 hts gX10_found_X6_setUp rfl rfl rfl (by decide +kernel) ⟨Nat.le_of_ble_eq_true rfl, Nat.le_of_ble_eq_true rfl⟩) (gP.V (ci := 6) (q := (RX6, TX6, 13)) (q0 := 18) hE hS hW rfl rfl) rfl rfl hl.1 rfl (lv_room (Nat.le_of_ble_eq_true rfl)) dX10_found_48 ⟨Nat.le_of_ble_eq_true rfl, Nat.le_of_ble_eq_true rfl⟩) hS (fun _ _ h => h) (fun _ h => h) (fun S48 t H locs ht hvm hw hB hzz hkk hS => ?_)
        have eS48 : S48 = q_X6_setUp S36 a13 := hw
        clear hw
        have hW : gW E M S48 H := by rw [← ht]; exact hB
        have hpS48 : S48.2.2 = S36.2.2 := by rw [eS48]; exact (qp_X6_setUp _ _)
        refine lv_iconst (v := 0) hx hb dX10_found_51 (by decide) ?_
        refine lv_istore_n (lv' := [(3, .int (0)), (2, .ref (a13)), (0, .ref (eC E 0)), (1, .int (p1))]) hx hb dX10_found_52 rfl hl (by decide) rfl (fun ls hl => ?_)
        exact L53 21 _ _ _ _ _ _ (by exact ⟨by rw [eS48, eS36]; exact fo_0 hT hH hkn0 hkn hs0 hs, hL13, hK13⟩) (by subst er1; first | (simp only [q_X10_found, if_neg c4, if_pos c29, ← er13, ← eS36, ← eS48]; done) | contradiction) hW hS (lv_sub hl [2, 1, 0] rfl)
      · refine lv_ldc hx hb (v := (-2000000002)) hown (hts (.constant RX10 176 (-2000000002)) (by decide +kernel)) dX10_found_32 ?_
        exact W.iret (v := (-2000000002)) hx hb hr (fun t ht _ => ⟨⟨(-2000000002), S, rfl, by subst er1; first | (simp only [q_X10_found, if_neg c4, if_neg c29, ← er13]; done) | contradiction, by dsimp only; rw [ht]; exact hW⟩, hS.F ht⟩) hS.2.2 dX10_found_34
  · refine lv_ldc hx hb (v := (-2000000001)) hown (hts (.constant RX10 86 (-2000000001)) (by decide +kernel)) dX10_found_7 ?_
    exact W.iret (v := (-2000000001)) hx hb hr (fun t ht _ => ⟨⟨(-2000000001), S, rfl, by subst er1; first | (simp only [q_X10_found, if_pos c4]; done) | contradiction, by dsimp only; rw [ht]; exact hW⟩, hS.F ht⟩) hS.2.2 dX10_found_9
