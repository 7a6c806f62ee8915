def q_X10_dialAt (S : gSc) (p1 : Int32) (p2 : Int32) : Option Nat := (let r1 := q_X10_isPlace p1; (if r1 = 0 then none else (match S.2.1 3 (p1.toNatClampNeg) with | none => none | some a14 => (if S.2.2.2.1 a14 = 1 then (let r33 := q_X1_isA S a14 p2; (if r33 = 0 then none else some a14)) else none))))
set_option maxHeartbeats 4000000 in
set_option maxRecDepth 100000 in
theorem c_X10_dialAt (l : Launch) (E : gEE) (M : gSm) (S : gSc) (p1 : Int32) (p2 : Int32) (hT : okR S 3 40) : Met l yX10_dialAt wsX10_dialAt ({ frames := 3, cells := 0, slots := 0, locals := 66 }) (va_Pc [.ref (eC E 0), .int (p1), .int (p2)] (gP E M S)) (va_Sq (fun r => r = q_X10_dialAt S p1 p2)) 0 0 (fun _ => False) := by
  refine Met.ofW (cc := cX10_dialAt) (maxL := 5) (ret := (some (.object "DialGarden$Dial"))) (by decide) rfl ?_
  intro p e s m args below meth c s₁ B hml hv
  obtain ⟨rfl, hE, hW⟩ := hv
  have hx := B.exec
  have hb := B.bytes
  have hr := B.returns
  have hts := atoms_spec (ws := wsX10_dialAt) B.pre
  have hown : s.vm.findClass RX10 = some m.cls := findClass_of_methodNamed B.named
  have hlocks := B.notSynchronized
  have hinX10 : ∀ w ∈ wsX100, w ∈ wsX10_dialAt := by decide +kernel
  have hS : va_S (eA E) s.heap s.heap [] := va_S.rf
  have hl := lv_entry ([.ref (eC E 0), .int (p1), .int (p2)]) (n := 5) (Nat.le_of_ble_eq_true rfl)
  rw [lg_entry_eq]
  generalize (lg_sl ([.ref (eC E 0), .int (p1), .int (p2)]) ++ List.replicate (5 - (lg_sl ([.ref (eC E 0), .int (p1), .int (p2)])).length) Slot.unset).toArray = ls at hl ⊢
  have hl : lv_has ls 5 [(0, .ref (eC E 0)), (1, .int (p1)), (2, .int (p2))] := hl
  refine lv_iload_n hx hb dX10_dialAt_0 rfl (lv_at hl 1 rfl) ?_
  refine k_Si (va_runS (As := [.int (p1)]) (rest := []) ⟨hx, hb, hml, hown, hts⟩ (c_X10_isPlace l p1) (va_cwS 1 hts gX10_dialAt_X10_isPlace rfl rfl rfl (by decide +kernel) ⟨Nat.le_of_ble_eq_true rfl, Nat.le_of_ble_eq_true rfl⟩) gP0 rfl rfl hl.1 rfl (lv_room (Nat.le_of_ble_eq_true rfl)) dX10_dialAt_1 ⟨Nat.le_of_ble_eq_true rfl, Nat.le_of_ble_eq_true rfl⟩) (fun r1 er1 => ?_)
  refine lv_if_ne (tgt := 9) hx hb dX10_dialAt_4 (by decide) (fun c4 => ?_) (fun c4 => ?_)
  · refine lv_aload_n hx hb dX10_dialAt_9 rfl (lv_at hl 0 rfl) ?_
    refine va_get (D := eD E) (cl := vwCl) (tys := eT E) (ci := 9) (C := RX10) (T := TX10) (N := 12) (v := .ref (eC E 3)) hx hb hts hinX10 hown hE.1 hW.1 11 rfl rfl 1 (by decide) (hts (.fieldLink RX10 18 "DialGarden" "things" "[LDialGarden$Thing;") (by decide +kernel)) (fun _ h9 => h9) rfl dX10_dialAt_10 ?_
    refine lv_iload_n hx hb dX10_dialAt_13 rfl (lv_at hl 1 rfl) ?_
    refine va_aldq (D := eD E) (cl := vwCl) (tys := eT E) (f := S.2.1 3) hx hb hE.1 hW.1 14 4 rfl rfl (vx (isPc_of er1 c4).1 (isPc_of er1 c4).2) dX10_dialAt_14 ?_
    rcases ho14 : S.2.1 3 (p1.toNatClampNeg) with _ | a14
    · refine lv_astoreN (lv' := [(4, .null), (0, .ref (eC E 0)), (1, .int (p1)), (2, .int (p2))]) hx hb dX10_dialAt_15 hl (by decide) rfl (fun ls hl => ?_)
      refine lv_aloadN hx hb dX10_dialAt_17 (lv_at hl 0 rfl) ?_
      refine lv_instN hx hb dX10_dialAt_19 ?_
      refine lv_if_eq (tgt := 43) hx hb dX10_dialAt_22 (by decide) (fun c22 => ?_) (fun c22 => ?_)
      · refine lv_null hx hb dX10_dialAt_43 ?_
        exact W.aret (v := .null) hx hb hr (Or.inl ⟨_, rfl⟩) (Or.inl rfl) (fun t ht _ => ⟨none, rfl, by subst er1; first | (simp only [q_X10_dialAt, if_neg c4, ho14]; done) | contradiction, ht⟩) (fun _ h => nomatch h) dX10_dialAt_44
      · exact absurd c22 (by decide)
    · have hL14 : a14 ∈ S.2.2.1 := hT _ _ (isP_lt (isPc_of er1 c4)) ho14
      refine lv_astore (lv' := [(4, .ref (a14)), (0, .ref (eC E 0)), (1, .int (p1)), (2, .int (p2))]) hx hb dX10_dialAt_15 hl (by decide) rfl (fun ls hl => ?_)
      refine lv_aload hx hb dX10_dialAt_17 (lv_at hl 0 rfl) ?_
      by_cases hK19 : S.2.2.2.1 a14 = 1
      · obtain ⟨k19, hk19⟩ := wJ_d E M (S := S) hL14 hK19
        refine va_instS hx hb hown (hts (.classLink RX10 155 RX1) (by decide +kernel)) (hE.1.1 1 (RX1, TX1, 7) rfl).2 (va_recv hE.1 hW.1 (ci := 1) (q := (RX1, TX1, 7)) rfl hk19) dX10_dialAt_19 ?_
        refine lv_if_eq (tgt := 43) hx hb dX10_dialAt_22 (by decide) (fun c22 => ?_) (fun c22 => ?_)
        · exact absurd c22 (by decide)
        · refine lv_aload hx hb dX10_dialAt_25 (lv_at hl 0 rfl) ?_
          obtain ⟨k27, hk27⟩ := wJ_d E M (S := S) hL14 hK19
          refine va_castS hx hb hown (hts (.classLink RX10 155 RX1) (by decide +kernel)) (hE.1.1 1 (RX1, TX1, 7) rfl).2 (va_recv hE.1 hW.1 (ci := 1) (q := (RX1, TX1, 7)) rfl hk27) dX10_dialAt_27 ?_
          refine lv_astore_n (lv' := [(3, .ref (a14)), (4, .ref (a14)), (0, .ref (eC E 0)), (1, .int (p1)), (2, .int (p2))]) hx hb dX10_dialAt_30 rfl hl (by decide) rfl (fun ls hl => ?_)
          refine lv_aload_n hx hb dX10_dialAt_31 rfl (lv_at hl 0 rfl) ?_
          refine lv_iload_n hx hb dX10_dialAt_32 rfl (lv_at hl 4 rfl) ?_
          obtain ⟨k33, hk33⟩ := wJ_d E M (S := S) hL14 hK19
          refine k_Si (va_runV (As := [.int (p2)]) (rest := []) ⟨hx, hb, hml, hown, hts⟩ (c_X1_isA l E M S a14 p2 hL14 hK19) (cwV 1 hts gX10_dialAt_X1_isA rfl rfl rfl (by decide +kernel) ⟨Nat.le_of_ble_eq_true rfl, Nat.le_of_ble_eq_true rfl⟩) (gP.V (ci := 1) (q := (RX1, TX1, 7)) hE hS hW rfl hk33) rfl rfl hl.1 rfl (lv_room (Nat.le_of_ble_eq_true rfl)) dX10_dialAt_33 ⟨Nat.le_of_ble_eq_true rfl, Nat.le_of_ble_eq_true rfl⟩) (fun r33 er33 => ?_)
          refine lv_if_eq (tgt := 43) hx hb dX10_dialAt_36 (by decide) (fun c36 => ?_) (fun c36 => ?_)
          · refine lv_null hx hb dX10_dialAt_43 ?_
            exact W.aret (v := .null) hx hb hr (Or.inl ⟨_, rfl⟩) (Or.inl rfl) (fun t ht _ => ⟨none, rfl, by subst er33; subst er1; first | (simp only [q_X10_dialAt, if_neg c4, if_pos hK19, if_pos c36, ho14]; done) | contradiction, ht⟩) (fun _ h => nomatch h) dX10_dialAt_44
          · refine lv_aload_n hx hb dX10_dialAt_39 rfl (lv_at hl 0 rfl) ?_
            refine lv_goto (tgt := 44) hx hb dX10_dialAt_40 (by decide) ?_
            exact W.aret (v := .ref (a14)) hx hb hr (Or.inl ⟨_, rfl⟩) (Or.inr ⟨_, rfl⟩) (fun t ht _ => ⟨some a14, rfl, by subst er33; subst er1; first | (simp only [q_X10_dialAt, if_neg c4, if_pos hK19, if_neg c36, ho14]; done) | contradiction, ht⟩) (fun _ h => nomatch h) dX10_dialAt_44
      · obtain ⟨k19, hk19⟩ := wJ_h E M (S := S) hL14 hK19
        refine va_instNo hx hb hown (hts (.classLink RX10 155 RX1) (by decide +kernel)) hE.2.2.2.1 (va_recv hE.1 hW.1 (ci := 2) (q := (RX2, TX2, 5)) rfl hk19) dX10_dialAt_19 ?_
        refine lv_if_eq (tgt := 43) hx hb dX10_dialAt_22 (by decide) (fun c22 => ?_) (fun c22 => ?_)
        · refine lv_null hx hb dX10_dialAt_43 ?_
          exact W.aret (v := .null) hx hb hr (Or.inl ⟨_, rfl⟩) (Or.inl rfl) (fun t ht _ => ⟨none, rfl, by subst er1; first | (simp only [q_X10_dialAt, if_neg c4, if_neg hK19, ho14]; done) | contradiction, ht⟩) (fun _ h => nomatch h) dX10_dialAt_44
        · exact absurd c22 (by decide)
  · refine lv_null hx hb dX10_dialAt_7 ?_
    exact W.aret (v := .null) hx hb hr (Or.inl ⟨_, rfl⟩) (Or.inl rfl) (fun t ht _ => ⟨none, rfl, by subst er1; first | (simp only [q_X10_dialAt, if_pos c4]; done) | contradiction, ht⟩) (fun _ h => nomatch h) dX10_dialAt_8

def q_X10_put (S : gSc) (p1 : Int32) (p2 : Option Nat) : gSc := (match p2 with | none => (match S.2.1 3 (p1.toNatClampNeg) with | none => (let S11 := q_X0_keep S p1 none; sR S11 3 (va_up (S11.2.1 3) (p1.toNatClampNeg) none)) | some a10 => (let S11 := q_X0_keep S p1 (some a10); sR S11 3 (va_up (S11.2.1 3) (p1.toNatClampNeg) none))) | some b2 => (match S.2.1 3 (p1.toNatClampNeg) with | none => (let S11 := q_X0_keep S p1 none; sR S11 3 (va_up (S11.2.1 3) (p1.toNatClampNeg) (some b2))) | some a10 => (let S11 := q_X0_keep S p1 (some a10); sR S11 3 (va_up (S11.2.1 3) (p1.toNatClampNeg) (some b2)))))
set_option maxHeartbeats 4000000 in
set_option maxRecDepth 100000 in
theorem c_X10_put (l : Launch) (E : gEE) (M : gSm) (S : gSc) (p1 : Int32) (p2 : Option Nat) (ho2 : ∀ b, p2 = some b → b ∈ S.2.2.1) (hp : isP p1) (hT : okR S 3 40) : Met l yX10_put wsX10_put ({ frames := 2, cells := 0, slots := 0, locals := 44 }) (va_Pc [.ref (eC E 0), .int (p1), va_rf p2] (gP E M S)) (va_Qv (fun u : gSc => u = q_X10_put S p1 p2) (fun u t => gW E M u t.heap) (eA E)) 0 0 (eA E) := by
  refine Met.ofW (cc := cX10_put) (maxL := 3) (ret := none) (by decide) rfl ?_
  intro p e s m args below meth c s₁ B hml hv
  obtain ⟨rfl, hE, hW⟩ := hv
  have hx := B.exec
  have hb := B.bytes
  have hr := B.returns
  have hts := atoms_spec (ws := wsX10_put) B.pre
  have hown : s.vm.findClass RX10 = some m.cls := findClass_of_methodNamed B.named
  have hlocks := B.notSynchronized
  have hinX10 : ∀ w ∈ wsX100, w ∈ wsX10_put := by decide +kernel
  have hS : va_S (eA E) s.heap s.heap [] := va_S.rf
  have hS : ∃ (H : Heap) (locs : List Loc), H = s.heap ∧ locs = [] ∧ gW E M S H ∧ va_S (eA E) s.heap H locs := ⟨_, _, rfl, rfl, hW, hS⟩
  clear hW
  obtain ⟨H, locs, eH, el, hW, hS⟩ := hS
  rw [← eH, ← el]
  clear eH el
  rcases p2 with _ | b2
  · have hl := lv_entry ([.ref (eC E 0), .int (p1), va_rf none]) (n := 3) (Nat.le_of_ble_eq_true rfl)
    rw [lg_entry_eq]
    generalize (lg_sl ([.ref (eC E 0), .int (p1), va_rf none]) ++ List.replicate (3 - (lg_sl ([.ref (eC E 0), .int (p1), va_rf none])).length) Slot.unset).toArray = ls at hl ⊢
    have hl : lv_has ls 3 [(0, .ref (eC E 0)), (1, .int (p1)), (2, .null)] := hl
    refine lv_aload_n hx hb dX10_put_0 rfl (lv_at hl 0 rfl) ?_
    refine va_get (D := eD E) (cl := vwCl) (tys := eT E) (ci := 9) (C := RX10) (T := TX10) (N := 12) (v := .ref (eC E 4)) hx hb hts hinX10 hown hE.1 hW.1 11 rfl rfl 2 (by decide) (hts (.fieldLink RX10 25 "DialGarden" "changes" "LDialGarden$Changes;") (by decide +kernel)) (fun _ h9 => h9) rfl dX10_put_1 ?_
    refine lv_iload_n hx hb dX10_put_4 rfl (lv_at hl 1 rfl) ?_
    refine lv_aload_n hx hb dX10_put_5 rfl (lv_at hl 0 rfl) ?_
    refine va_get (D := eD E) (cl := vwCl) (tys := eT E) (ci := 9) (C := RX10) (T := TX10) (N := 12) (v := .ref (eC E 3)) hx hb hts hinX10 hown hE.1 hW.1 11 rfl rfl 1 (by decide) (hts (.fieldLink RX10 18 "DialGarden" "things" "[LDialGarden$Thing;") (by decide +kernel)) (fun _ h9 => h9) rfl dX10_put_6 ?_
    refine lv_iload_n hx hb dX10_put_9 rfl (lv_at hl 1 rfl) ?_
    refine va_aldq (D := eD E) (cl := vwCl) (tys := eT E) (f := S.2.1 3) hx hb hE.1 hW.1 14 4 rfl rfl (vx hp.1 hp.2) dX10_put_10 ?_
    rcases ho10 : S.2.1 3 (p1.toNatClampNeg) with _ | a10
    · refine va_callv (va_runV (As := [.int (p1), .null]) (rest := []) ⟨hx, hb, hml, hown, hts⟩ (c_X0_keep l E M S p1 none (by intro b h; cases h)) (cwV 2 hts gX10_put_X0_keep rfl rfl rfl (by decide +kernel) ⟨Nat.le_of_ble_eq_true rfl, Nat.le_of_ble_eq_true rfl⟩) (gP.V (ci := 0) (q := (RX0, TX0, 4)) (q0 := 15) hE hS hW rfl rfl) rfl rfl hl.1 rfl (lv_room (Nat.le_of_ble_eq_true rfl)) dX10_put_11 ⟨Nat.le_of_ble_eq_true rfl, Nat.le_of_ble_eq_true rfl⟩) hS (fun _ _ h => h) (fun _ h => h) (fun S11 t H locs ht hvm hw hB hz1 hk1 hS => ?_)
      have eS11 : S11 = q_X0_keep S p1 none := hw
      clear hw
      have hW : gW E M S11 H := by rw [← ht]; exact hB
      have hpS11 : S11.2.2 = S.2.2 := by rw [eS11]; exact (qp_X0_keep _ _ _)
      refine lv_aload_n hx hb dX10_put_14 rfl (lv_at hl 0 rfl) ?_
      refine va_get (D := eD E) (cl := vwCl) (tys := eT E) (ci := 9) (C := RX10) (T := TX10) (N := 12) (v := .ref (eC E 3)) hx hb hts hinX10 hown hE.1 hW.1 11 rfl rfl 1 (by decide) (hts (.fieldLink RX10 18 "DialGarden" "things" "[LDialGarden$Thing;") (by decide +kernel)) (fun _ h9 => h9) rfl dX10_put_15 ?_
      refine lv_iload_n hx hb dX10_put_18 rfl (lv_at hl 1 rfl) ?_
      refine lv_aload_nN hx hb dX10_put_19 rfl (lv_at hl 2 rfl) ?_
      refine va_astqN (D := eD E) (cl := vwCl) (tys := eT E) (A := eA E) (f := S11.2.1 3) hx hb hE.1 hW.1 hW.2 hS 14 4 rfl rfl (vx hp.1 hp.2) dX10_put_20 (fun H locs hP hD hS => ?_)
      have hW : gW E M (sR S11 3 (va_up (S11.2.1 3) (p1.toNatClampNeg) none)) H := gW.of (tC_R3 E M S11 (va_up (S11.2.1 3) (p1.toNatClampNeg) none)) hP hD
      exact W.vret hx hb hr (fun t ht _ => ⟨⟨sR S11 3 (va_up (S11.2.1 3) (p1.toNatClampNeg) none), rfl, by subst eS11; first | (simp only [q_X10_put, ho10]; done) | contradiction, by dsimp only; rw [ht]; exact hW⟩, hS.F ht⟩) hS.2.2 dX10_put_21
    · have hL10 : a10 ∈ S.2.2.1 := hT _ _ (isP_lt hp) ho10
      refine va_callv (va_runV (As := [.int (p1), .ref (a10)]) (rest := []) ⟨hx, hb, hml, hown, hts⟩ (c_X0_keep l E M S p1 (some a10) (by intro b h; cases h; exact hL10)) (cwV 2 hts gX10_put_X0_keep rfl rfl rfl (by decide +kernel) ⟨Nat.le_of_ble_eq_true rfl, Nat.le_of_ble_eq_true rfl⟩) (gP.V (ci := 0) (q := (RX0, TX0, 4)) (q0 := 15) hE hS hW rfl rfl) rfl rfl hl.1 rfl (lv_room (Nat.le_of_ble_eq_true rfl)) dX10_put_11 ⟨Nat.le_of_ble_eq_true rfl, Nat.le_of_ble_eq_true rfl⟩) hS (fun _ _ h => h) (fun _ h => h) (fun S11 t H locs ht hvm hw hB hz1 hk1 hS => ?_)
      have eS11 : S11 = q_X0_keep S p1 (some a10) := hw
      clear hw
      have hW : gW E M S11 H := by rw [← ht]; exact hB
      have hpS11 : S11.2.2 = S.2.2 := by rw [eS11]; exact (qp_X0_keep _ _ _)
      refine lv_aload_n hx hb dX10_put_14 rfl (lv_at hl 0 rfl) ?_
      refine va_get (D := eD E) (cl := vwCl) (tys := eT E) (ci := 9) (C := RX10) (T := TX10) (N := 12) (v := .ref (eC E 3)) hx hb hts hinX10 hown hE.1 hW.1 11 rfl rfl 1 (by decide) (hts (.fieldLink RX10 18 "DialGarden" "things" "[LDialGarden$Thing;") (by decide +kernel)) (fun _ h9 => h9) rfl dX10_put_15 ?_
      refine lv_iload_n hx hb dX10_put_18 rfl (lv_at hl 1 rfl) ?_
      refine lv_aload_nN hx hb dX10_put_19 rfl (lv_at hl 2 rfl) ?_
      refine va_astqN (D := eD E) (cl := vwCl) (tys := eT E) (A := eA E) (f := S11.2.1 3) hx hb hE.1 hW.1 hW.2 hS 14 4 rfl rfl (vx hp.1 hp.2) dX10_put_20 (fun H locs hP hD hS => ?_)
      have hW : gW E M (sR S11 3 (va_up (S11.2.1 3) (p1.toNatClampNeg) none)) H := gW.of (tC_R3 E M S11 (va_up (S11.2.1 3) (p1.toNatClampNeg) none)) hP hD
      exact W.vret hx hb hr (fun t ht _ => ⟨⟨sR S11 3 (va_up (S11.2.1 3) (p1.toNatClampNeg) none), rfl, by subst eS11; first | (simp only [q_X10_put, ho10]; done) | contradiction, by dsimp only; rw [ht]; exact hW⟩, hS.F ht⟩) hS.2.2 dX10_put_21
  · have hLb2 : b2 ∈ S.2.2.1 := ho2 _ rfl
    have hl := lv_entry ([.ref (eC E 0), .int (p1), va_rf (some b2)]) (n := 3) (Nat.le_of_ble_eq_true rfl)
    rw [lg_entry_eq]
    generalize (lg_sl ([.ref (eC E 0), .int (p1), va_rf (some b2)]) ++ List.replicate (3 - (lg_sl ([.ref (eC E 0), .int (p1), va_rf (some b2)])).length) Slot.unset).toArray = ls at hl ⊢
    have hl : lv_has ls 3 [(0, .ref (eC E 0)), (1, .int (p1)), (2, .ref (b2))] := hl
    refine lv_aload_n hx hb dX10_put_0 rfl (lv_at hl 0 rfl) ?_
    refine va_get (D := eD E) (cl := vwCl) (tys := eT E) (ci := 9) (C := RX10) (T := TX10) (N := 12) (v := .ref (eC E 4)) hx hb hts hinX10 hown hE.1 hW.1 11 rfl rfl 2 (by decide) (hts (.fieldLink RX10 25 "DialGarden" "changes" "LDialGarden$Changes;") (by decide +kernel)) (fun _ h9 => h9) rfl dX10_put_1 ?_
    refine lv_iload_n hx hb dX10_put_4 rfl (lv_at hl 1 rfl) ?_
    refine lv_aload_n hx hb dX10_put_5 rfl (lv_at hl 0 rfl) ?_
    refine va_get (D := eD E) (cl := vwCl) (tys := eT E) (ci := 9) (C := RX10) (T := TX10) (N := 12) (v := .ref (eC E 3)) hx hb hts hinX10 hown hE.1 hW.1 11 rfl rfl 1 (by decide) (hts (.fieldLink RX10 18 "DialGarden" "things" "[LDialGarden$Thing;") (by decide +kernel)) (fun _ h9 => h9) rfl dX10_put_6 ?_
    refine lv_iload_n hx hb dX10_put_9 rfl (lv_at hl 1 rfl) ?_
    refine va_aldq (D := eD E) (cl := vwCl) (tys := eT E) (f := S.2.1 3) hx hb hE.1 hW.1 14 4 rfl rfl (vx hp.1 hp.2) dX10_put_10 ?_
    rcases ho10 : S.2.1 3 (p1.toNatClampNeg) with _ | a10
    · refine va_callv (va_runV (As := [.int (p1), .null]) (rest := []) ⟨hx, hb, hml, hown, hts⟩ (c_X0_keep l E M S p1 none (by intro b h; cases h)) (cwV 2 hts gX10_put_X0_keep rfl rfl rfl (by decide +kernel) ⟨Nat.le_of_ble_eq_true rfl, Nat.le_of_ble_eq_true rfl⟩) (gP.V (ci := 0) (q := (RX0, TX0, 4)) (q0 := 15) hE hS hW rfl rfl) rfl rfl hl.1 rfl (lv_room (Nat.le_of_ble_eq_true rfl)) dX10_put_11 ⟨Nat.le_of_ble_eq_true rfl, Nat.le_of_ble_eq_true rfl⟩) hS (fun _ _ h => h) (fun _ h => h) (fun S11 t H locs ht hvm hw hB hz1 hk1 hS => ?_)
      have eS11 : S11 = q_X0_keep S p1 none := hw
      clear hw
      have hW : gW E M S11 H := by rw [← ht]; exact hB
      have hpS11 : S11.2.2 = S.2.2 := by rw [eS11]; exact (qp_X0_keep _ _ _)
      refine lv_aload_n hx hb dX10_put_14 rfl (lv_at hl 0 rfl) ?_
      refine va_get (D := eD E) (cl := vwCl) (tys := eT E) (ci := 9) (C := RX10) (T := TX10) (N := 12) (v := .ref (eC E 3)) hx hb hts hinX10 hown hE.1 hW.1 11 rfl rfl 1 (by decide) (hts (.fieldLink RX10 18 "DialGarden" "things" "[LDialGarden$Thing;") (by decide +kernel)) (fun _ h9 => h9) rfl dX10_put_15 ?_
      refine lv_iload_n hx hb dX10_put_18 rfl (lv_at hl 1 rfl) ?_
      refine lv_aload_n hx hb dX10_put_19 rfl (lv_at hl 2 rfl) ?_
      by_cases hK20 : S11.2.2.2.1 b2 = 1
      · obtain ⟨k20, hk20⟩ := wJ_d E M (S := S11) (by rw [hpS11]; exact hLb2) hK20
        refine va_astqO (D := eD E) (cl := vwCl) (tys := eT E) (A := eA E) (f := S11.2.1 3) (r := (RX1, TX1, 7)) (E := "DialGarden$Thing") hx hb hE.1 hW.1 hW.2 hS 14 4 k20 1 rfl rfl (hE.2.2.1 (.castable "DialGarden$Dial" "DialGarden$Thing") (by decide +kernel)) hk20 rfl (vx hp.1 hp.2) dX10_put_20 (fun H locs hP hD hS => ?_)
        have hW : gW E M (sR S11 3 (va_up (S11.2.1 3) (p1.toNatClampNeg) (some b2))) H := gW.of (tC_R3 E M S11 (va_up (S11.2.1 3) (p1.toNatClampNeg) (some b2))) hP hD
        exact W.vret hx hb hr (fun t ht _ => ⟨⟨sR S11 3 (va_up (S11.2.1 3) (p1.toNatClampNeg) (some b2)), rfl, by subst eS11; first | (simp only [q_X10_put, ho10]; done) | contradiction, by dsimp only; rw [ht]; exact hW⟩, hS.F ht⟩) hS.2.2 dX10_put_21
      · obtain ⟨k20, hk20⟩ := wJ_h E M (S := S11) (by rw [hpS11]; exact hLb2) hK20
        refine va_astqO (D := eD E) (cl := vwCl) (tys := eT E) (A := eA E) (f := S11.2.1 3) (r := (RX2, TX2, 5)) (E := "DialGarden$Thing") hx hb hE.1 hW.1 hW.2 hS 14 4 k20 2 rfl rfl (hE.2.2.1 (.castable "DialGarden$House" "DialGarden$Thing") (by decide +kernel)) hk20 rfl (vx hp.1 hp.2) dX10_put_20 (fun H locs hP hD hS => ?_)
        have hW : gW E M (sR S11 3 (va_up (S11.2.1 3) (p1.toNatClampNeg) (some b2))) H := gW.of (tC_R3 E M S11 (va_up (S11.2.1 3) (p1.toNatClampNeg) (some b2))) hP hD
        exact W.vret hx hb hr (fun t ht _ => ⟨⟨sR S11 3 (va_up (S11.2.1 3) (p1.toNatClampNeg) (some b2)), rfl, by subst eS11; first | (simp only [q_X10_put, ho10]; done) | contradiction, by dsimp only; rw [ht]; exact hW⟩, hS.F ht⟩) hS.2.2 dX10_put_21
    · have hL10 : a10 ∈ S.2.2.1 := hT _ _ (isP_lt hp) ho10
      refine va_callv (va_runV (As := [.int (p1), .ref (a10)]) (rest := []) ⟨hx, hb, hml, hown, hts⟩ (c_X0_keep l E M S p1 (some a10) (by intro b h; cases h; exact hL10)) (cwV 2 hts gX10_put_X0_keep rfl rfl rfl (by decide +kernel) ⟨Nat.le_of_ble_eq_true rfl, Nat.le_of_ble_eq_true rfl⟩) (gP.V (ci := 0) (q := (RX0, TX0, 4)) (q0 := 15) hE hS hW rfl rfl) rfl rfl hl.1 rfl (lv_room (Nat.le_of_ble_eq_true rfl)) dX10_put_11 ⟨Nat.le_of_ble_eq_true rfl, Nat.le_of_ble_eq_true rfl⟩) hS (fun _ _ h => h) (fun _ h => h) (fun S11 t H locs ht hvm hw hB hz1 hk1 hS => ?_)
      have eS11 : S11 = q_X0_keep S p1 (some a10) := hw
      clear hw
      have hW : gW E M S11 H := by rw [← ht]; exact hB
      have hpS11 : S11.2.2 = S.2.2 := by rw [eS11]; exact (qp_X0_keep _ _ _)
      refine lv_aload_n hx hb dX10_put_14 rfl (lv_at hl 0 rfl) ?_
      refine va_get (D := eD E) (cl := vwCl) (tys := eT E) (ci := 9) (C := RX10) (T := TX10) (N := 12) (v := .ref (eC E 3)) hx hb hts hinX10 hown hE.1 hW.1 11 rfl rfl 1 (by decide) (hts (.fieldLink RX10 18 "DialGarden" "things" "[LDialGarden$Thing;") (by decide +kernel)) (fun _ h9 => h9) rfl dX10_put_15 ?_
      refine lv_iload_n hx hb dX10_put_18 rfl (lv_at hl 1 rfl) ?_
      refine lv_aload_n hx hb dX10_put_19 rfl (lv_at hl 2 rfl) ?_
      by_cases hK20 : S11.2.2.2.1 b2 = 1
      · obtain ⟨k20, hk20⟩ := wJ_d E M (S := S11) (by rw [hpS11]; exact hLb2) hK20
        refine va_astqO (D := eD E) (cl := vwCl) (tys := eT E) (A := eA E) (f := S11.2.1 3) (r := (RX1, TX1, 7)) (E := "DialGarden$Thing") hx hb hE.1 hW.1 hW.2 hS 14 4 k20 1 rfl rfl (hE.2.2.1 (.castable "DialGarden$Dial" "DialGarden$Thing") (by decide +kernel)) hk20 rfl (vx hp.1 hp.2) dX10_put_20 (fun H locs hP hD hS => ?_)
        have hW : gW E M (sR S11 3 (va_up (S11.2.1 3) (p1.toNatClampNeg) (some b2))) H := gW.of (tC_R3 E M S11 (va_up (S11.2.1 3) (p1.toNatClampNeg) (some b2))) hP hD
        exact W.vret hx hb hr (fun t ht _ => ⟨⟨sR S11 3 (va_up (S11.2.1 3) (p1.toNatClampNeg) (some b2)), rfl, by subst eS11; first | (simp only [q_X10_put, ho10]; done) | contradiction, by dsimp only; rw [ht]; exact hW⟩, hS.F ht⟩) hS.2.2 dX10_put_21
      · obtain ⟨k20, hk20⟩ := wJ_h E M (S := S11) (by rw [hpS11]; exact hLb2) hK20
        refine va_astqO (D := eD E) (cl := vwCl) (tys := eT E) (A := eA E) (f := S11.2.1 3) (r := (RX2, TX2, 5)) (E := "DialGarden$Thing") hx hb hE.1 hW.1 hW.2 hS 14 4 k20 2 rfl rfl (hE.2.2.1 (.castable "DialGarden$House" "DialGarden$Thing") (by decide +kernel)) hk20 rfl (vx hp.1 hp.2) dX10_put_20 (fun H locs hP hD hS => ?_)
        have hW : gW E M (sR S11 3 (va_up (S11.2.1 3) (p1.toNatClampNeg) (some b2))) H := gW.of (tC_R3 E M S11 (va_up (S11.2.1 3) (p1.toNatClampNeg) (some b2))) hP hD
        exact W.vret hx hb hr (fun t ht _ => ⟨⟨sR S11 3 (va_up (S11.2.1 3) (p1.toNatClampNeg) (some b2)), rfl, by subst eS11; first | (simp only [q_X10_put, ho10]; done) | contradiction, by dsimp only; rw [ht]; exact hW⟩, hS.F ht⟩) hS.2.2 dX10_put_21
theorem pt_aux (Y S : gSc) (i : Nat) (o : Option Nat) (h : Y.2.2 = S.2.2) : (let S11 := Y; sR S11 3 (va_up (S11.2.1 3) i o)).2.2 = S.2.2 := h
theorem qp_X10_put (S : gSc) (p1 : Int32) (p2 : Option Nat) : (q_X10_put S p1 p2).2.2 = S.2.2 := by
  unfold q_X10_put
  split
  · split
    · exact pt_aux _ S _ _ (qp_X0_keep S p1 none)
    · exact pt_aux _ S _ _ (qp_X0_keep S p1 (some _))
  · split
    · exact pt_aux _ S _ _ (qp_X0_keep S p1 none)
    · exact pt_aux _ S _ _ (qp_X0_keep S p1 (some _))

def q_X10_sine (S : gSc) (p1 : Int32) : Int32 := (let r1 := q_X10_sineOf p1; r1)
set_option maxHeartbeats 4000000 in
set_option maxRecDepth 100000 in
theorem c_X10_sine (l : Launch) (E : gEE) (M : gSm) (S : gSc) (p1 : Int32)  : Met l yX10_sine wsX10_sine ({ frames := 1, cells := 0, slots := 0, locals := 24 }) (va_Pc [.ref (eC E 0), .int (p1)] (gP E M S)) (vp_Si (fun r => r = q_X10_sine S p1)) 0 0 (fun _ => False) := by
  refine Met.ofW (cc := cX10_sine) (maxL := 2) (ret := (some .int)) (by decide) rfl ?_
  intro p e s m args below meth c s₁ B hml hv
  obtain ⟨rfl, hE, hW⟩ := hv
  have hx := B.exec
  have hb := B.bytes
  have hr := B.returns
  have hts := atoms_spec (ws := wsX10_sine) B.pre
  have hown : s.vm.findClass RX10 = some m.cls := findClass_of_methodNamed B.named
  have hlocks := B.notSynchronized
  have hS : va_S (eA E) s.heap s.heap [] := va_S.rf
  have hl := lv_entry ([.ref (eC E 0), .int (p1)]) (n := 2) (Nat.le_of_ble_eq_true rfl)
  rw [lg_entry_eq]
  generalize (lg_sl ([.ref (eC E 0), .int (p1)]) ++ List.replicate (2 - (lg_sl ([.ref (eC E 0), .int (p1)])).length) Slot.unset).toArray = ls at hl ⊢
  have hl : lv_has ls 2 [(0, .ref (eC E 0)), (1, .int (p1))] := hl
  refine lv_iload_n hx hb dX10_sine_0 rfl (lv_at hl 1 rfl) ?_
  refine k_Si (va_runS (As := [.int (p1)]) (rest := []) ⟨hx, hb, hml, hown, hts⟩ (c_X10_sineOf l p1) (va_cwS 1 hts gX10_sine_X10_sineOf rfl rfl rfl (by decide +kernel) ⟨Nat.le_of_ble_eq_true rfl, Nat.le_of_ble_eq_true rfl⟩) gP0 rfl rfl hl.1 rfl (lv_room (Nat.le_of_ble_eq_true rfl)) dX10_sine_1 ⟨Nat.le_of_ble_eq_true rfl, Nat.le_of_ble_eq_true rfl⟩) (fun r1 er1 => ?_)
  exact W.iret (v := r1) hx hb hr (fun t ht _ => ⟨r1, rfl, by subst er1; first | (simp only [q_X10_sine]; done) | contradiction, ht⟩) (fun _ h => nomatch h) dX10_sine_4

def q_X10_latitude (S : gSc) (p1 : Int32) : Int32 × gSc := (let r8 := q_X10_within (p1.toInt64) (-16384) 16384; (if r8 = 0 then ((-2000000001), S) else (let x24 := S.1 1 2; (let S30 := q_X8_setLatitude S p1; (x24, S30)))))
set_option maxHeartbeats 4000000 in
set_option maxRecDepth 100000 in
theorem c_X10_latitude (l : Launch) (E : gEE) (M : gSm) (S : gSc) (p1 : Int32)  : Met l yX10_latitude wsX10_latitude ({ frames := 3, cells := 0, slots := 0, locals := 65 }) (va_Pc [.ref (eC E 0), .int (p1)] (gP E M S)) (va_Qi (fun r (u : gSc) => (r, u) = q_X10_latitude S p1) (fun u t => gW E M u t.heap) (eA E)) 0 0 (eA E) := by
  refine Met.ofW (cc := cX10_latitude) (maxL := 3) (ret := (some .int)) (by decide) rfl ?_
  intro p e s m args below meth c s₁ B hml hv
  obtain ⟨rfl, hE, hW⟩ := hv
  have hx := B.exec
  have hb := B.bytes
  have hr := B.returns
  have hts := atoms_spec (ws := wsX10_latitude) B.pre
  have hown : s.vm.findClass RX10 = some m.cls := findClass_of_methodNamed B.named
  have hlocks := B.notSynchronized
  have hinX10 : ∀ w ∈ wsX100, w ∈ wsX10_latitude := by decide +kernel
  have hinX8 : ∀ w ∈ wsX80, w ∈ wsX10_latitude := by decide +kernel
  have hS : va_S (eA E) s.heap s.heap [] := va_S.rf
  have hl := lv_entry ([.ref (eC E 0), .int (p1)]) (n := 3) (Nat.le_of_ble_eq_true rfl)
  rw [lg_entry_eq]
  generalize (lg_sl ([.ref (eC E 0), .int (p1)]) ++ List.replicate (3 - (lg_sl ([.ref (eC E 0), .int (p1)])).length) Slot.unset).toArray = ls at hl ⊢
  have hl : lv_has ls 3 [(0, .ref (eC E 0)), (1, .int (p1))] := hl
  have hS : ∃ (H : Heap) (locs : List Loc), H = s.heap ∧ locs = [] ∧ gW E M S H ∧ va_S (eA E) s.heap H locs := ⟨_, _, rfl, rfl, hW, hS⟩
  clear hW
  obtain ⟨H, locs, eH, el, hW, hS⟩ := hS
  rw [← eH, ← el]
  clear eH el
  refine lv_iload_n hx hb dX10_latitude_0 rfl (lv_at hl 1 rfl) ?_
  refine lv_i2l (v := p1.toInt64) hx hb dX10_latitude_1 rfl ?_
  refine lv_ldc2 hx hb (v := (-16384)) hown (hts (.constantLong RX10 78 (-16384)) (by decide +kernel)) dX10_latitude_2 ?_
  refine lv_ldc2 hx hb (v := 16384) hown (hts (.constantLong RX10 80 (16384)) (by decide +kernel)) dX10_latitude_5 ?_
  refine k_Si (va_runS (As := [.long (p1.toInt64), .long ((-16384)), .long (16384)]) (rest := []) ⟨hx, hb, hml, hown, hts⟩ (c_X10_within l (p1.toInt64) (-16384) 16384) (va_cwS 3 hts gX10_latitude_X10_within rfl rfl rfl (by decide +kernel) ⟨Nat.le_of_ble_eq_true rfl, Nat.le_of_ble_eq_true rfl⟩) gP0 rfl rfl hl.1 rfl (lv_room (Nat.le_of_ble_eq_true rfl)) dX10_latitude_8 ⟨Nat.le_of_ble_eq_true rfl, Nat.le_of_ble_eq_true rfl⟩) (fun r8 er8 => ?_)
  refine lv_if_ne (tgt := 17) hx hb dX10_latitude_11 (by decide) (fun c11 => ?_) (fun c11 => ?_)
  · refine lv_aload_n hx hb dX10_latitude_17 rfl (lv_at hl 0 rfl) ?_
    refine va_get (D := eD E) (cl := vwCl) (tys := eT E) (ci := 9) (C := RX10) (T := TX10) (N := 12) (v := .ref (eC E 1)) hx hb hts hinX10 hown hE.1 hW.1 11 rfl rfl 0 (by decide) (hts (.fieldLink RX10 10 "DialGarden" "sky" "LDialGarden$Sky;") (by decide +kernel)) (fun _ h9 => h9) rfl dX10_latitude_18 ?_
    refine va_getN (D := eD E) (cl := vwCl) (tys := eT E) (ci := 8) (C := RX8) (T := TX8) (N := 16) (v := .int (S.1 1 2)) hx hb hts hinX8 hown hE.1 hW.1 12 rfl rfl 2 (by decide) (va_Nw.use rfl (hE.2.2.1 (.fieldLinkNest "DialGarden" 87 "DialGarden$Sky" "latitude" "I" "DialGarden") (by decide +kernel))) (fun _ h9 => h9) rfl dX10_latitude_21 ?_
    refine lv_topi (fun x24 ex24 => ?_)
    refine lv_istore_n (lv' := [(2, .int (x24)), (0, .ref (eC E 0)), (1, .int (p1))]) hx hb dX10_latitude_24 rfl hl (by decide) rfl (fun ls hl => ?_)
    refine lv_aload_n hx hb dX10_latitude_25 rfl (lv_at hl 1 rfl) ?_
    refine va_get (D := eD E) (cl := vwCl) (tys := eT E) (ci := 9) (C := RX10) (T := TX10) (N := 12) (v := .ref (eC E 1)) hx hb hts hinX10 hown hE.1 hW.1 11 rfl rfl 0 (by decide) (hts (.fieldLink RX10 10 "DialGarden" "sky" "LDialGarden$Sky;") (by decide +kernel)) (fun _ h9 => h9) rfl dX10_latitude_26 ?_
    refine lv_iload_n hx hb dX10_latitude_29 rfl (lv_at hl 2 rfl) ?_
    refine va_callv (va_runV (As := [.int (p1)]) (rest := []) ⟨hx, hb, hml, hown, hts⟩ (c_X8_setLatitude l E M S p1) (cwV 1 hts gX10_latitude_X8_setLatitude rfl rfl rfl (by decide +kernel) ⟨Nat.le_of_ble_eq_true rfl, Nat.le_of_ble_eq_true rfl⟩) (gP.V (ci := 8) (q := (RX8, TX8, 16)) (q0 := 12) hE hS hW rfl rfl) rfl rfl hl.1 rfl (lv_room (Nat.le_of_ble_eq_true rfl)) dX10_latitude_30 ⟨Nat.le_of_ble_eq_true rfl, Nat.le_of_ble_eq_true rfl⟩) hS (fun _ _ h => h) (fun _ h => h) (fun S30 t H locs ht hvm hw hB hz1 hk1 hS => ?_)
    have eS30 : S30 = q_X8_setLatitude S p1 := hw
    clear hw
    have hW : gW E M S30 H := by rw [← ht]; exact hB
    have hpS30 : S30.2.2 = S.2.2 := by rw [eS30]; exact (qp_X8_setLatitude _ _)
    refine lv_iload_n hx hb dX10_latitude_33 rfl (lv_at hl 0 rfl) ?_
    exact W.iret (v := x24) hx hb hr (fun t ht _ => ⟨⟨x24, S30, rfl, by subst eS30; subst ex24; subst er8; first | (simp only [q_X10_latitude, if_neg c11]; done) | contradiction, by dsimp only; rw [ht]; exact hW⟩, hS.F ht⟩) hS.2.2 dX10_latitude_34
  · refine lv_ldc hx hb (v := (-2000000001)) hown (hts (.constant RX10 86 (-2000000001)) (by decide +kernel)) dX10_latitude_14 ?_
    exact W.iret (v := (-2000000001)) hx hb hr (fun t ht _ => ⟨⟨(-2000000001), S, rfl, by subst er8; first | (simp only [q_X10_latitude, if_pos c11]; done) | contradiction, by dsimp only; rw [ht]; exact hW⟩, hS.F ht⟩) hS.2.2 dX10_latitude_16

def q_X10_corrections (S : gSc) (p1 : Int32) : Int32 × gSc := (let r6 := q_X10_within (p1.toInt64) 0 366; (if r6 = 0 then ((-2000000001), S) else (let S20 := q_X8_clearCorrections S p1; (p1, S20))))
set_option maxHeartbeats 4000000 in
set_option maxRecDepth 100000 in
theorem c_X10_corrections (l : Launch) (E : gEE) (M : gSm) (S : gSc) (p1 : Int32)  : Met l yX10_corrections wsX10_corrections ({ frames := 2, cells := 0, slots := 0, locals := 44 }) (va_Pc [.ref (eC E 0), .int (p1)] (gP E M S)) (va_Qi (fun r (u : gSc) => (r, u) = q_X10_corrections S p1) (fun u t => gW E M u t.heap) (eA E)) 0 0 (eA E) := by
  refine Met.ofW (cc := cX10_corrections) (maxL := 2) (ret := (some .int)) (by decide) rfl ?_
  intro p e s m args below meth c s₁ B hml hv
  obtain ⟨rfl, hE, hW⟩ := hv
  have hx := B.exec
  have hb := B.bytes
  have hr := B.returns
  have hts := atoms_spec (ws := wsX10_corrections) B.pre
  have hown : s.vm.findClass RX10 = some m.cls := findClass_of_methodNamed B.named
  have hlocks := B.notSynchronized
  have hinX10 : ∀ w ∈ wsX100, w ∈ wsX10_corrections := by decide +kernel
  have hS : va_S (eA E) s.heap s.heap [] := va_S.rf
  have hl := lv_entry ([.ref (eC E 0), .int (p1)]) (n := 2) (Nat.le_of_ble_eq_true rfl)
  rw [lg_entry_eq]
  generalize (lg_sl ([.ref (eC E 0), .int (p1)]) ++ List.replicate (2 - (lg_sl ([.ref (eC E 0), .int (p1)])).length) Slot.unset).toArray = ls at hl ⊢
  have hl : lv_has ls 2 [(0, .ref (eC E 0)), (1, .int (p1))] := hl
  have hS : ∃ (H : Heap) (locs : List Loc), H = s.heap ∧ locs = [] ∧ gW E M S H ∧ va_S (eA E) s.heap H locs := ⟨_, _, rfl, rfl, hW, hS⟩
  clear hW
  obtain ⟨H, locs, eH, el, hW, hS⟩ := hS
  rw [← eH, ← el]
  clear eH el
  refine lv_iload_n hx hb dX10_corrections_0 rfl (lv_at hl 1 rfl) ?_
  refine lv_i2l (v := p1.toInt64) hx hb dX10_corrections_1 rfl ?_
  refine lv_lconst (v := 0) hx hb dX10_corrections_2 (by decide) ?_
  refine lv_ldc2 hx hb (v := 366) hown (hts (.constantLong RX10 94 (366)) (by decide +kernel)) dX10_corrections_3 ?_
  refine k_Si (va_runS (As := [.long (p1.toInt64), .long (0), .long (366)]) (rest := []) ⟨hx, hb, hml, hown, hts⟩ (c_X10_within l (p1.toInt64) 0 366) (va_cwS 3 hts gX10_corrections_X10_within rfl rfl rfl (by decide +kernel) ⟨Nat.le_of_ble_eq_true rfl, Nat.le_of_ble_eq_true rfl⟩) gP0 rfl rfl hl.1 rfl (lv_room (Nat.le_of_ble_eq_true rfl)) dX10_corrections_6 ⟨Nat.le_of_ble_eq_true rfl, Nat.le_of_ble_eq_true rfl⟩) (fun r6 er6 => ?_)
  refine lv_if_ne (tgt := 15) hx hb dX10_corrections_9 (by decide) (fun c9 => ?_) (fun c9 => ?_)
  · refine lv_aload_n hx hb dX10_corrections_15 rfl (lv_at hl 0 rfl) ?_
    refine va_get (D := eD E) (cl := vwCl) (tys := eT E) (ci := 9) (C := RX10) (T := TX10) (N := 12) (v := .ref (eC E 1)) hx hb hts hinX10 hown hE.1 hW.1 11 rfl rfl 0 (by decide) (hts (.fieldLink RX10 10 "DialGarden" "sky" "LDialGarden$Sky;") (by decide +kernel)) (fun _ h9 => h9) rfl dX10_corrections_16 ?_
    refine lv_iload_n hx hb dX10_corrections_19 rfl (lv_at hl 1 rfl) ?_
    refine va_callv (va_runV (As := [.int (p1)]) (rest := []) ⟨hx, hb, hml, hown, hts⟩ (c_X8_clearCorrections l E M S p1) (cwV 1 hts gX10_corrections_X8_clearCorrections rfl rfl rfl (by decide +kernel) ⟨Nat.le_of_ble_eq_true rfl, Nat.le_of_ble_eq_true rfl⟩) (gP.V (ci := 8) (q := (RX8, TX8, 16)) (q0 := 12) hE hS hW rfl rfl) rfl rfl hl.1 rfl (lv_room (Nat.le_of_ble_eq_true rfl)) dX10_corrections_20 ⟨Nat.le_of_ble_eq_true rfl, Nat.le_of_ble_eq_true rfl⟩) hS (fun _ _ h => h) (fun _ h => h) (fun S20 t H locs ht hvm hw hB hz1 hk1 hS => ?_)
    have eS20 : S20 = q_X8_clearCorrections S p1 := hw
    clear hw
    have hW : gW E M S20 H := by rw [← ht]; exact hB
    have hpS20 : S20.2.2 = S.2.2 := by rw [eS20]; exact (qp_X8_clearCorrections _ _)
    refine lv_iload_n hx hb dX10_corrections_23 rfl (lv_at hl 1 rfl) ?_
    exact W.iret (v := p1) hx hb hr (fun t ht _ => ⟨⟨p1, S20, rfl, by subst eS20; subst er6; first | (simp only [q_X10_corrections, if_neg c9]; done) | contradiction, by dsimp only; rw [ht]; exact hW⟩, hS.F ht⟩) hS.2.2 dX10_corrections_24
  · refine lv_ldc hx hb (v := (-2000000001)) hown (hts (.constant RX10 86 (-2000000001)) (by decide +kernel)) dX10_corrections_12 ?_
    exact W.iret (v := (-2000000001)) hx hb hr (fun t ht _ => ⟨⟨(-2000000001), S, rfl, by subst er6; first | (simp only [q_X10_corrections, if_pos c9]; done) | contradiction, by dsimp only; rw [ht]; exact hW⟩, hS.F ht⟩) hS.2.2 dX10_corrections_14

def q_X10_correct (S : gSc) (p1 : Int32) (p2 : Int32) : Int32 × gSc := (let r8 := q_X10_within (p2.toInt64) (-99) 99; (if r8 = 0 then ((-2000000001), S) else (let r27 := q_X10_within (p1.toInt64) 0 (((S.1 1 1) - 1).toInt64); (if r27 = 0 then ((-2000000001), S) else (let x45 := S.1 2 (p1.toNatClampNeg); (x45, pI S 2 (p1.toNatClampNeg) p2))))))
set_option maxHeartbeats 4000000 in
set_option maxRecDepth 100000 in
theorem c_X10_correct (l : Launch) (E : gEE) (M : gSm) (S : gSc) (p1 : Int32) (p2 : Int32) (hkn0 : 0 ≤ (S.1 1 1).toInt) (hkn : (S.1 1 1).toInt ≤ 366) : Met l yX10_correct wsX10_correct ({ frames := 1, cells := 0, slots := 0, locals := 25 }) (va_Pc [.ref (eC E 0), .int (p1), .int (p2)] (gP E M S)) (va_Qi (fun r (u : gSc) => (r, u) = q_X10_correct S p1 p2) (fun u t => gW E M u t.heap) (eA E)) 0 0 (eA E) := by
  refine Met.ofW (cc := cX10_correct) (maxL := 4) (ret := (some .int)) (by decide) rfl ?_
  intro p e s m args below meth c s₁ B hml hv
  obtain ⟨rfl, hE, hW⟩ := hv
  have hx := B.exec
  have hb := B.bytes
  have hr := B.returns
  have hts := atoms_spec (ws := wsX10_correct) B.pre
  have hown : s.vm.findClass RX10 = some m.cls := findClass_of_methodNamed B.named
  have hlocks := B.notSynchronized
  have hinX10 : ∀ w ∈ wsX100, w ∈ wsX10_correct := by decide +kernel
  have hinX8 : ∀ w ∈ wsX80, w ∈ wsX10_correct := by decide +kernel
  have hS : va_S (eA E) s.heap s.heap [] := va_S.rf
  have hl := lv_entry ([.ref (eC E 0), .int (p1), .int (p2)]) (n := 4) (Nat.le_of_ble_eq_true rfl)
  rw [lg_entry_eq]
  generalize (lg_sl ([.ref (eC E 0), .int (p1), .int (p2)]) ++ List.replicate (4 - (lg_sl ([.ref (eC E 0), .int (p1), .int (p2)])).length) Slot.unset).toArray = ls at hl ⊢
  have hl : lv_has ls 4 [(0, .ref (eC E 0)), (1, .int (p1)), (2, .int (p2))] := hl
  have hS : ∃ (H : Heap) (locs : List Loc), H = s.heap ∧ locs = [] ∧ gW E M S H ∧ va_S (eA E) s.heap H locs := ⟨_, _, rfl, rfl, hW, hS⟩
  clear hW
  obtain ⟨H, locs, eH, el, hW, hS⟩ := hS
  rw [← eH, ← el]
  clear eH el
  refine lv_iload_n hx hb dX10_correct_0 rfl (lv_at hl 2 rfl) ?_
  refine lv_i2l (v := p2.toInt64) hx hb dX10_correct_1 rfl ?_
  refine lv_ldc2 hx hb (v := (-99)) hown (hts (.constantLong RX10 99 (-99)) (by decide +kernel)) dX10_correct_2 ?_
  refine lv_ldc2 hx hb (v := 99) hown (hts (.constantLong RX10 101 (99)) (by decide +kernel)) dX10_correct_5 ?_
  refine k_Si (va_runS (As := [.long (p2.toInt64), .long ((-99)), .long (99)]) (rest := []) ⟨hx, hb, hml, hown, hts⟩ (c_X10_within l (p2.toInt64) (-99) 99) (va_cwS 3 hts gX10_correct_X10_within rfl rfl rfl (by decide +kernel) ⟨Nat.le_of_ble_eq_true rfl, Nat.le_of_ble_eq_true rfl⟩) gP0 rfl rfl hl.1 rfl (lv_room (Nat.le_of_ble_eq_true rfl)) dX10_correct_8 ⟨Nat.le_of_ble_eq_true rfl, Nat.le_of_ble_eq_true rfl⟩) (fun r8 er8 => ?_)
  refine lv_if_eq (tgt := 33) hx hb dX10_correct_11 (by decide) (fun c11 => ?_) (fun c11 => ?_)
  · refine lv_ldc hx hb (v := (-2000000001)) hown (hts (.constant RX10 86 (-2000000001)) (by decide +kernel)) dX10_correct_33 ?_
    exact W.iret (v := (-2000000001)) hx hb hr (fun t ht _ => ⟨⟨(-2000000001), S, rfl, by subst er8; first | (simp only [q_X10_correct, if_pos c11]; done) | contradiction, by dsimp only; rw [ht]; exact hW⟩, hS.F ht⟩) hS.2.2 dX10_correct_35
  · refine lv_iload_n hx hb dX10_correct_14 rfl (lv_at hl 1 rfl) ?_
    refine lv_i2l (v := p1.toInt64) hx hb dX10_correct_15 rfl ?_
    refine lv_lconst (v := 0) hx hb dX10_correct_16 (by decide) ?_
    refine lv_aload_n hx hb dX10_correct_17 rfl (lv_at hl 0 rfl) ?_
    refine va_get (D := eD E) (cl := vwCl) (tys := eT E) (ci := 9) (C := RX10) (T := TX10) (N := 12) (v := .ref (eC E 1)) hx hb hts hinX10 hown hE.1 hW.1 11 rfl rfl 0 (by decide) (hts (.fieldLink RX10 10 "DialGarden" "sky" "LDialGarden$Sky;") (by decide +kernel)) (fun _ h9 => h9) rfl dX10_correct_18 ?_
    refine va_getN (D := eD E) (cl := vwCl) (tys := eT E) (ci := 8) (C := RX8) (T := TX8) (N := 16) (v := .int (S.1 1 1)) hx hb hts hinX8 hown hE.1 hW.1 12 rfl rfl 1 (by decide) (va_Nw.use rfl (hE.2.2.1 (.fieldLinkNest "DialGarden" 103 "DialGarden$Sky" "known" "I" "DialGarden") (by decide +kernel))) (fun _ h9 => h9) rfl dX10_correct_21 ?_
    refine lv_iconst (v := 1) hx hb dX10_correct_24 (by decide) ?_
    refine lv_isub hx hb dX10_correct_25 ?_
    refine lv_i2l (v := ((S.1 1 1) - 1).toInt64) hx hb dX10_correct_26 rfl ?_
    refine k_Si (va_runS (As := [.long (p1.toInt64), .long (0), .long (((S.1 1 1) - 1).toInt64)]) (rest := []) ⟨hx, hb, hml, hown, hts⟩ (c_X10_within l (p1.toInt64) 0 (((S.1 1 1) - 1).toInt64)) (va_cwS 3 hts gX10_correct_X10_within rfl rfl rfl (by decide +kernel) ⟨Nat.le_of_ble_eq_true rfl, Nat.le_of_ble_eq_true rfl⟩) gP0 rfl rfl hl.1 rfl (lv_room (Nat.le_of_ble_eq_true rfl)) dX10_correct_27 ⟨Nat.le_of_ble_eq_true rfl, Nat.le_of_ble_eq_true rfl⟩) (fun r27 er27 => ?_)
    refine lv_if_ne (tgt := 36) hx hb dX10_correct_30 (by decide) (fun c30 => ?_) (fun c30 => ?_)
    · refine lv_aload_n hx hb dX10_correct_36 rfl (lv_at hl 0 rfl) ?_
      refine va_get (D := eD E) (cl := vwCl) (tys := eT E) (ci := 9) (C := RX10) (T := TX10) (N := 12) (v := .ref (eC E 1)) hx hb hts hinX10 hown hE.1 hW.1 11 rfl rfl 0 (by decide) (hts (.fieldLink RX10 10 "DialGarden" "sky" "LDialGarden$Sky;") (by decide +kernel)) (fun _ h9 => h9) rfl dX10_correct_37 ?_
      refine va_getN (D := eD E) (cl := vwCl) (tys := eT E) (ci := 8) (C := RX8) (T := TX8) (N := 16) (v := .ref (eC E 2)) hx hb hts hinX8 hown hE.1 hW.1 12 rfl rfl 0 (by decide) (va_Nw.use rfl (hE.2.2.1 (.fieldLinkNest "DialGarden" 106 "DialGarden$Sky" "corrections" "[I" "DialGarden") (by decide +kernel))) (fun _ h9 => h9) rfl dX10_correct_40 ?_
      refine lv_iload_n hx hb dX10_correct_43 rfl (lv_at hl 1 rfl) ?_
      refine va_iald (D := eD E) (cl := vwCl) (tys := eT E) (f := S.1 2) hx hb hE.1 hW.1 13 0 rfl rfl (wi_in er27 c30 hkn0 hkn) dX10_correct_44 ?_
      refine lv_topi (fun x45 ex45 => ?_)
      refine lv_istore_n (lv' := [(3, .int (x45)), (0, .ref (eC E 0)), (1, .int (p1)), (2, .int (p2))]) hx hb dX10_correct_45 rfl hl (by decide) rfl (fun ls hl => ?_)
      refine lv_aload_n hx hb dX10_correct_46 rfl (lv_at hl 1 rfl) ?_
      refine va_get (D := eD E) (cl := vwCl) (tys := eT E) (ci := 9) (C := RX10) (T := TX10) (N := 12) (v := .ref (eC E 1)) hx hb hts hinX10 hown hE.1 hW.1 11 rfl rfl 0 (by decide) (hts (.fieldLink RX10 10 "DialGarden" "sky" "LDialGarden$Sky;") (by decide +kernel)) (fun _ h9 => h9) rfl dX10_correct_47 ?_
      refine va_getN (D := eD E) (cl := vwCl) (tys := eT E) (ci := 8) (C := RX8) (T := TX8) (N := 16) (v := .ref (eC E 2)) hx hb hts hinX8 hown hE.1 hW.1 12 rfl rfl 0 (by decide) (va_Nw.use rfl (hE.2.2.1 (.fieldLinkNest "DialGarden" 106 "DialGarden$Sky" "corrections" "[I" "DialGarden") (by decide +kernel))) (fun _ h9 => h9) rfl dX10_correct_50 ?_
      refine lv_iload_n hx hb dX10_correct_53 rfl (lv_at hl 2 rfl) ?_
      refine lv_iload_n hx hb dX10_correct_54 rfl (lv_at hl 3 rfl) ?_
      refine va_iast (D := eD E) (cl := vwCl) (tys := eT E) (A := eA E) (f := S.1 2) (x := p2) hx hb hE.1 hW.1 hW.2 hS 13 0 rfl rfl (wi_in er27 c30 hkn0 hkn) dX10_correct_55 (fun H locs hP hD hS => ?_)
      have hW : gW E M (pI S 2 (p1.toNatClampNeg) p2) H := gW.of (tC_I2 E M S (upd (S.1 2) (p1.toNatClampNeg) p2)) hP hD
      refine lv_iload_n hx hb dX10_correct_56 rfl (lv_at hl 0 rfl) ?_
      exact W.iret (v := x45) hx hb hr (fun t ht _ => ⟨⟨x45, pI S 2 (p1.toNatClampNeg) p2, rfl, by subst ex45; subst er27; subst er8; first | (simp only [q_X10_correct, if_neg c11, if_neg c30]; done) | contradiction, by dsimp only; rw [ht]; exact hW⟩, hS.F ht⟩) hS.2.2 dX10_correct_57
    · refine lv_ldc hx hb (v := (-2000000001)) hown (hts (.constant RX10 86 (-2000000001)) (by decide +kernel)) dX10_correct_33 ?_
      exact W.iret (v := (-2000000001)) hx hb hr (fun t ht _ => ⟨⟨(-2000000001), S, rfl, by subst er27; subst er8; first | (simp only [q_X10_correct, if_neg c11, if_pos c30]; done) | contradiction, by dsimp only; rw [ht]; exact hW⟩, hS.F ht⟩) hS.2.2 dX10_correct_35

def q_X10_sun (S : gSc) (p1 : Int32) (p2 : Int32) (p3 : Int32) : Int32 × gSc := (let r2 := q_X10_isTime p1 p2; (if r2 = 0 then ((-2000000001), S) else (let r14 := q_X10_within (p3.toInt64) 0 5; (if r14 = 0 then ((-2000000001), S) else (let S29 := q_X8_setTime S p1 p2; (if p3 = 0 then (S29.1 1 13, S29) else if p3 = 1 then (S29.1 1 14, S29) else if p3 = 2 then (S29.1 1 15, S29) else if p3 = 3 then (S29.1 1 6, S29) else if p3 = 4 then (S29.1 1 12, S29) else (S29.1 1 5, S29)))))))
set_option maxHeartbeats 4000000 in
set_option maxRecDepth 100000 in
theorem c_X10_sun (l : Launch) (E : gEE) (M : gSm) (S : gSc) (p1 : Int32) (p2 : Int32) (p3 : Int32) (hkn0 : 0 ≤ (S.1 1 1).toInt) (hkn : (S.1 1 1).toInt ≤ 366) : Met l yX10_sun wsX10_sun ({ frames := 4, cells := 0, slots := 0, locals := 88 }) (va_Pc [.ref (eC E 0), .int (p1), .int (p2), .int (p3)] (gP E M S)) (va_Qi (fun r (u : gSc) => (r, u) = q_X10_sun S p1 p2 p3) (fun u t => gW E M u t.heap) (eA E)) 0 0 (eA E) := by
  refine Met.ofW (cc := cX10_sun) (maxL := 4) (ret := (some .int)) (by decide) rfl ?_
  intro p e s m args below meth c s₁ B hml hv
  obtain ⟨rfl, hE, hW⟩ := hv
  have hx := B.exec
  have hb := B.bytes
  have hr := B.returns
  have hts := atoms_spec (ws := wsX10_sun) B.pre
  have hown : s.vm.findClass RX10 = some m.cls := findClass_of_methodNamed B.named
  have hlocks := B.notSynchronized
  have hinX10 : ∀ w ∈ wsX100, w ∈ wsX10_sun := by decide +kernel
  have hinX8 : ∀ w ∈ wsX80, w ∈ wsX10_sun := by decide +kernel
  have hS : va_S (eA E) s.heap s.heap [] := va_S.rf
  have hl := lv_entry ([.ref (eC E 0), .int (p1), .int (p2), .int (p3)]) (n := 4) (Nat.le_of_ble_eq_true rfl)
  rw [lg_entry_eq]
  generalize (lg_sl ([.ref (eC E 0), .int (p1), .int (p2), .int (p3)]) ++ List.replicate (4 - (lg_sl ([.ref (eC E 0), .int (p1), .int (p2), .int (p3)])).length) Slot.unset).toArray = ls at hl ⊢
  have hl : lv_has ls 4 [(0, .ref (eC E 0)), (1, .int (p1)), (2, .int (p2)), (3, .int (p3))] := hl
  have hS : ∃ (H : Heap) (locs : List Loc), H = s.heap ∧ locs = [] ∧ gW E M S H ∧ va_S (eA E) s.heap H locs := ⟨_, _, rfl, rfl, hW, hS⟩
  clear hW
  obtain ⟨H, locs, eH, el, hW, hS⟩ := hS
  rw [← eH, ← el]
  clear eH el
  refine lv_iload_n hx hb dX10_sun_0 rfl (lv_at hl 1 rfl) ?_
  refine lv_iload_n hx hb dX10_sun_1 rfl (lv_at hl 2 rfl) ?_
  refine k_Si (va_runS (As := [.int (p1), .int (p2)]) (rest := []) ⟨hx, hb, hml, hown, hts⟩ (c_X10_isTime l p1 p2) (va_cwS 2 hts gX10_sun_X10_isTime rfl rfl rfl (by decide +kernel) ⟨Nat.le_of_ble_eq_true rfl, Nat.le_of_ble_eq_true rfl⟩) gP0 rfl rfl hl.1 rfl (lv_room (Nat.le_of_ble_eq_true rfl)) dX10_sun_2 ⟨Nat.le_of_ble_eq_true rfl, Nat.le_of_ble_eq_true rfl⟩) (fun r2 er2 => ?_)
  refine lv_if_eq (tgt := 20) hx hb dX10_sun_5 (by decide) (fun c5 => ?_) (fun c5 => ?_)
  · refine lv_ldc hx hb (v := (-2000000001)) hown (hts (.constant RX10 86 (-2000000001)) (by decide +kernel)) dX10_sun_20 ?_
    exact W.iret (v := (-2000000001)) hx hb hr (fun t ht _ => ⟨⟨(-2000000001), S, rfl, by subst er2; first | (simp only [q_X10_sun, if_pos c5]; done) | contradiction, by dsimp only; rw [ht]; exact hW⟩, hS.F ht⟩) hS.2.2 dX10_sun_22
  · refine lv_iload_n hx hb dX10_sun_8 rfl (lv_at hl 3 rfl) ?_
    refine lv_i2l (v := p3.toInt64) hx hb dX10_sun_9 rfl ?_
    refine lv_lconst (v := 0) hx hb dX10_sun_10 (by decide) ?_
    refine lv_ldc2 hx hb (v := 5) hown (hts (.constantLong RX10 119 (5)) (by decide +kernel)) dX10_sun_11 ?_
    refine k_Si (va_runS (As := [.long (p3.toInt64), .long (0), .long (5)]) (rest := []) ⟨hx, hb, hml, hown, hts⟩ (c_X10_within l (p3.toInt64) 0 5) (va_cwS 3 hts gX10_sun_X10_within rfl rfl rfl (by decide +kernel) ⟨Nat.le_of_ble_eq_true rfl, Nat.le_of_ble_eq_true rfl⟩) gP0 rfl rfl hl.1 rfl (lv_room (Nat.le_of_ble_eq_true rfl)) dX10_sun_14 ⟨Nat.le_of_ble_eq_true rfl, Nat.le_of_ble_eq_true rfl⟩) (fun r14 er14 => ?_)
    refine lv_if_ne (tgt := 23) hx hb dX10_sun_17 (by decide) (fun c17 => ?_) (fun c17 => ?_)
    · refine lv_aload_n hx hb dX10_sun_23 rfl (lv_at hl 0 rfl) ?_
      refine va_get (D := eD E) (cl := vwCl) (tys := eT E) (ci := 9) (C := RX10) (T := TX10) (N := 12) (v := .ref (eC E 1)) hx hb hts hinX10 hown hE.1 hW.1 11 rfl rfl 0 (by decide) (hts (.fieldLink RX10 10 "DialGarden" "sky" "LDialGarden$Sky;") (by decide +kernel)) (fun _ h9 => h9) rfl dX10_sun_24 ?_
      refine lv_iload_n hx hb dX10_sun_27 rfl (lv_at hl 1 rfl) ?_
      refine lv_iload_n hx hb dX10_sun_28 rfl (lv_at hl 2 rfl) ?_
      refine va_callv (va_runV (As := [.int (p1), .int (p2)]) (rest := []) ⟨hx, hb, hml, hown, hts⟩ (c_X8_setTime l E M S p1 p2 hkn0 hkn) (cwV 2 hts gX10_sun_X8_setTime rfl rfl rfl (by decide +kernel) ⟨Nat.le_of_ble_eq_true rfl, Nat.le_of_ble_eq_true rfl⟩) (gP.V (ci := 8) (q := (RX8, TX8, 16)) (q0 := 12) hE hS hW rfl rfl) rfl rfl hl.1 rfl (lv_room (Nat.le_of_ble_eq_true rfl)) dX10_sun_29 ⟨Nat.le_of_ble_eq_true rfl, Nat.le_of_ble_eq_true rfl⟩) hS (fun _ _ h => h) (fun _ h => h) (fun S29 t H locs ht hvm hw hB hz1 hk1 hS => ?_)
      have eS29 : S29 = q_X8_setTime S p1 p2 := hw
      clear hw
      have hW : gW E M S29 H := by rw [← ht]; exact hB
      have hpS29 : S29.2.2 = S.2.2 := by rw [eS29]; exact (qp_X8_setTime _ _ _)
      refine lv_iload_n hx hb dX10_sun_32 rfl (lv_at hl 3 rfl) ?_
      by_cases c33_0 : p3 = 0
      · refine lv_tableIn (tgt := 68) (off := 35) hx hb dX10_sun_33 (by rw [c33_0]; decide) (by rw [c33_0]; decide) (by rw [c33_0]; rfl) (by decide) ?_
        refine lv_aload_n hx hb dX10_sun_68 rfl (lv_at hl 0 rfl) ?_
        refine va_get (D := eD E) (cl := vwCl) (tys := eT E) (ci := 9) (C := RX10) (T := TX10) (N := 12) (v := .ref (eC E 1)) hx hb hts hinX10 hown hE.1 hW.1 11 rfl rfl 0 (by decide) (hts (.fieldLink RX10 10 "DialGarden" "sky" "LDialGarden$Sky;") (by decide +kernel)) (fun _ h9 => h9) rfl dX10_sun_69 ?_
        refine va_getN (D := eD E) (cl := vwCl) (tys := eT E) (ci := 8) (C := RX8) (T := TX8) (N := 16) (v := .int (S29.1 1 13)) hx hb hts hinX8 hown hE.1 hW.1 12 rfl rfl 13 (by decide) (va_Nw.use rfl (hE.2.2.1 (.fieldLinkNest "DialGarden" 125 "DialGarden$Sky" "east" "I" "DialGarden") (by decide +kernel))) (fun _ h9 => h9) rfl dX10_sun_72 ?_
        exact W.iret (v := S29.1 1 13) hx hb hr (fun t ht _ => ⟨⟨S29.1 1 13, S29, rfl, by subst eS29; subst er14; subst er2; first | (simp only [q_X10_sun, if_neg c5, if_neg c17, if_pos c33_0]; done) | contradiction, by dsimp only; rw [ht]; exact hW⟩, hS.F ht⟩) hS.2.2 dX10_sun_75
      by_cases c33_1 : p3 = 1
      · refine lv_tableIn (tgt := 76) (off := 43) hx hb dX10_sun_33 (by rw [c33_1]; decide) (by rw [c33_1]; decide) (by rw [c33_1]; rfl) (by decide) ?_
        refine lv_aload_n hx hb dX10_sun_76 rfl (lv_at hl 0 rfl) ?_
        refine va_get (D := eD E) (cl := vwCl) (tys := eT E) (ci := 9) (C := RX10) (T := TX10) (N := 12) (v := .ref (eC E 1)) hx hb hts hinX10 hown hE.1 hW.1 11 rfl rfl 0 (by decide) (hts (.fieldLink RX10 10 "DialGarden" "sky" "LDialGarden$Sky;") (by decide +kernel)) (fun _ h9 => h9) rfl dX10_sun_77 ?_
        refine va_getN (D := eD E) (cl := vwCl) (tys := eT E) (ci := 8) (C := RX8) (T := TX8) (N := 16) (v := .int (S29.1 1 14)) hx hb hts hinX8 hown hE.1 hW.1 12 rfl rfl 14 (by decide) (va_Nw.use rfl (hE.2.2.1 (.fieldLinkNest "DialGarden" 128 "DialGarden$Sky" "north" "I" "DialGarden") (by decide +kernel))) (fun _ h9 => h9) rfl dX10_sun_80 ?_
        exact W.iret (v := S29.1 1 14) hx hb hr (fun t ht _ => ⟨⟨S29.1 1 14, S29, rfl, by subst eS29; subst er14; subst er2; first | (simp only [q_X10_sun, if_neg c5, if_neg c17, if_neg c33_0, if_pos c33_1]; done) | contradiction, by dsimp only; rw [ht]; exact hW⟩, hS.F ht⟩) hS.2.2 dX10_sun_83
      by_cases c33_2 : p3 = 2
      · refine lv_tableIn (tgt := 84) (off := 51) hx hb dX10_sun_33 (by rw [c33_2]; decide) (by rw [c33_2]; decide) (by rw [c33_2]; rfl) (by decide) ?_
        refine lv_aload_n hx hb dX10_sun_84 rfl (lv_at hl 0 rfl) ?_
        refine va_get (D := eD E) (cl := vwCl) (tys := eT E) (ci := 9) (C := RX10) (T := TX10) (N := 12) (v := .ref (eC E 1)) hx hb hts hinX10 hown hE.1 hW.1 11 rfl rfl 0 (by decide) (hts (.fieldLink RX10 10 "DialGarden" "sky" "LDialGarden$Sky;") (by decide +kernel)) (fun _ h9 => h9) rfl dX10_sun_85 ?_
        refine va_getN (D := eD E) (cl := vwCl) (tys := eT E) (ci := 8) (C := RX8) (T := TX8) (N := 16) (v := .int (S29.1 1 15)) hx hb hts hinX8 hown hE.1 hW.1 12 rfl rfl 15 (by decide) (va_Nw.use rfl (hE.2.2.1 (.fieldLinkNest "DialGarden" 131 "DialGarden$Sky" "up" "I" "DialGarden") (by decide +kernel))) (fun _ h9 => h9) rfl dX10_sun_88 ?_
        exact W.iret (v := S29.1 1 15) hx hb hr (fun t ht _ => ⟨⟨S29.1 1 15, S29, rfl, by subst eS29; subst er14; subst er2; first | (simp only [q_X10_sun, if_neg c5, if_neg c17, if_neg c33_0, if_neg c33_1, if_pos c33_2]; done) | contradiction, by dsimp only; rw [ht]; exact hW⟩, hS.F ht⟩) hS.2.2 dX10_sun_91
      by_cases c33_3 : p3 = 3
      · refine lv_tableIn (tgt := 92) (off := 59) hx hb dX10_sun_33 (by rw [c33_3]; decide) (by rw [c33_3]; decide) (by rw [c33_3]; rfl) (by decide) ?_
        refine lv_aload_n hx hb dX10_sun_92 rfl (lv_at hl 0 rfl) ?_
        refine va_get (D := eD E) (cl := vwCl) (tys := eT E) (ci := 9) (C := RX10) (T := TX10) (N := 12) (v := .ref (eC E 1)) hx hb hts hinX10 hown hE.1 hW.1 11 rfl rfl 0 (by decide) (hts (.fieldLink RX10 10 "DialGarden" "sky" "LDialGarden$Sky;") (by decide +kernel)) (fun _ h9 => h9) rfl dX10_sun_93 ?_
        refine va_getN (D := eD E) (cl := vwCl) (tys := eT E) (ci := 8) (C := RX8) (T := TX8) (N := 16) (v := .int (S29.1 1 6)) hx hb hts hinX8 hown hE.1 hW.1 12 rfl rfl 6 (by decide) (va_Nw.use rfl (hE.2.2.1 (.fieldLinkNest "DialGarden" 134 "DialGarden$Sky" "slope" "I" "DialGarden") (by decide +kernel))) (fun _ h9 => h9) rfl dX10_sun_96 ?_
        exact W.iret (v := S29.1 1 6) hx hb hr (fun t ht _ => ⟨⟨S29.1 1 6, S29, rfl, by subst eS29; subst er14; subst er2; first | (simp only [q_X10_sun, if_neg c5, if_neg c17, if_neg c33_0, if_neg c33_1, if_neg c33_2, if_pos c33_3]; done) | contradiction, by dsimp only; rw [ht]; exact hW⟩, hS.F ht⟩) hS.2.2 dX10_sun_99
      by_cases c33_4 : p3 = 4
      · refine lv_tableIn (tgt := 100) (off := 67) hx hb dX10_sun_33 (by rw [c33_4]; decide) (by rw [c33_4]; decide) (by rw [c33_4]; rfl) (by decide) ?_
        refine lv_aload_n hx hb dX10_sun_100 rfl (lv_at hl 0 rfl) ?_
        refine va_get (D := eD E) (cl := vwCl) (tys := eT E) (ci := 9) (C := RX10) (T := TX10) (N := 12) (v := .ref (eC E 1)) hx hb hts hinX10 hown hE.1 hW.1 11 rfl rfl 0 (by decide) (hts (.fieldLink RX10 10 "DialGarden" "sky" "LDialGarden$Sky;") (by decide +kernel)) (fun _ h9 => h9) rfl dX10_sun_101 ?_
        refine va_getN (D := eD E) (cl := vwCl) (tys := eT E) (ci := 8) (C := RX8) (T := TX8) (N := 16) (v := .int (S29.1 1 12)) hx hb hts hinX8 hown hE.1 hW.1 12 rfl rfl 12 (by decide) (va_Nw.use rfl (hE.2.2.1 (.fieldLinkNest "DialGarden" 137 "DialGarden$Sky" "turn" "I" "DialGarden") (by decide +kernel))) (fun _ h9 => h9) rfl dX10_sun_104 ?_
        exact W.iret (v := S29.1 1 12) hx hb hr (fun t ht _ => ⟨⟨S29.1 1 12, S29, rfl, by subst eS29; subst er14; subst er2; first | (simp only [q_X10_sun, if_neg c5, if_neg c17, if_neg c33_0, if_neg c33_1, if_neg c33_2, if_neg c33_3, if_pos c33_4]; done) | contradiction, by dsimp only; rw [ht]; exact hW⟩, hS.F ht⟩) hS.2.2 dX10_sun_107
      refine lv_tableOut (tgt := 108) hx hb dX10_sun_33 (sw_out4 c33_0 c33_1 c33_2 c33_3 c33_4) (by decide) ?_
      refine lv_aload_n hx hb dX10_sun_108 rfl (lv_at hl 0 rfl) ?_
      refine va_get (D := eD E) (cl := vwCl) (tys := eT E) (ci := 9) (C := RX10) (T := TX10) (N := 12) (v := .ref (eC E 1)) hx hb hts hinX10 hown hE.1 hW.1 11 rfl rfl 0 (by decide) (hts (.fieldLink RX10 10 "DialGarden" "sky" "LDialGarden$Sky;") (by decide +kernel)) (fun _ h9 => h9) rfl dX10_sun_109 ?_
      refine va_getN (D := eD E) (cl := vwCl) (tys := eT E) (ci := 8) (C := RX8) (T := TX8) (N := 16) (v := .int (S29.1 1 5)) hx hb hts hinX8 hown hE.1 hW.1 12 rfl rfl 5 (by decide) (va_Nw.use rfl (hE.2.2.1 (.fieldLinkNest "DialGarden" 140 "DialGarden$Sky" "correction" "I" "DialGarden") (by decide +kernel))) (fun _ h9 => h9) rfl dX10_sun_112 ?_
      exact W.iret (v := S29.1 1 5) hx hb hr (fun t ht _ => ⟨⟨S29.1 1 5, S29, rfl, by subst eS29; subst er14; subst er2; first | (simp only [q_X10_sun, if_neg c5, if_neg c17, if_neg c33_0, if_neg c33_1, if_neg c33_2, if_neg c33_3, if_neg c33_4]; done) | contradiction, by dsimp only; rw [ht]; exact hW⟩, hS.F ht⟩) hS.2.2 dX10_sun_115
    · refine lv_ldc hx hb (v := (-2000000001)) hown (hts (.constant RX10 86 (-2000000001)) (by decide +kernel)) dX10_sun_20 ?_
      exact W.iret (v := (-2000000001)) hx hb hr (fun t ht _ => ⟨⟨(-2000000001), S, rfl, by subst er14; subst er2; first | (simp only [q_X10_sun, if_neg c5, if_pos c17]; done) | contradiction, by dsimp only; rw [ht]; exact hW⟩, hS.F ht⟩) hS.2.2 dX10_sun_22

def q_X10_drop (S : gSc) (p1 : Int32) : Int32 × gSc := (let r1 := q_X10_isPlace p1; (if r1 = 0 then ((-2000000001), S) else (match S.2.1 3 (p1.toNatClampNeg) with | none => ((-2000000002), S) | some a15 => (let S25 := q_X10_put S p1 none; (0, S25)))))
set_option maxHeartbeats 4000000 in
set_option maxRecDepth 100000 in
theorem c_X10_drop (l : Launch) (E : gEE) (M : gSm) (S : gSc) (p1 : Int32) (hT : okR S 3 40) : Met l yX10_drop wsX10_drop ({ frames := 3, cells := 0, slots := 0, locals := 66 }) (va_Pc [.ref (eC E 0), .int (p1)] (gP E M S)) (va_Qi (fun r (u : gSc) => (r, u) = q_X10_drop S p1) (fun u t => gW E M u t.heap) (eA E)) 0 0 (eA E) := by
  refine Met.ofW (cc := cX10_drop) (maxL := 2) (ret := (some .int)) (by decide) rfl ?_
  intro p e s m args below meth c s₁ B hml hv
  obtain ⟨rfl, hE, hW⟩ := hv
  have hx := B.exec
  have hb := B.bytes
  have hr := B.returns
  have hts := atoms_spec (ws := wsX10_drop) B.pre
  have hown : s.vm.findClass RX10 = some m.cls := findClass_of_methodNamed B.named
  have hlocks := B.notSynchronized
  have hinX10 : ∀ w ∈ wsX100, w ∈ wsX10_drop := by decide +kernel
  have hS : va_S (eA E) s.heap s.heap [] := va_S.rf
  have hl := lv_entry ([.ref (eC E 0), .int (p1)]) (n := 2) (Nat.le_of_ble_eq_true rfl)
  rw [lg_entry_eq]
  generalize (lg_sl ([.ref (eC E 0), .int (p1)]) ++ List.replicate (2 - (lg_sl ([.ref (eC E 0), .int (p1)])).length) Slot.unset).toArray = ls at hl ⊢
  have hl : lv_has ls 2 [(0, .ref (eC E 0)), (1, .int (p1))] := hl
  have hS : ∃ (H : Heap) (locs : List Loc), H = s.heap ∧ locs = [] ∧ gW E M S H ∧ va_S (eA E) s.heap H locs := ⟨_, _, rfl, rfl, hW, hS⟩
  clear hW
  obtain ⟨H, locs, eH, el, hW, hS⟩ := hS
  rw [← eH, ← el]
  clear eH el
  refine lv_iload_n hx hb dX10_drop_0 rfl (lv_at hl 1 rfl) ?_
  refine k_Si (va_runS (As := [.int (p1)]) (rest := []) ⟨hx, hb, hml, hown, hts⟩ (c_X10_isPlace l p1) (va_cwS 1 hts gX10_drop_X10_isPlace rfl rfl rfl (by decide +kernel) ⟨Nat.le_of_ble_eq_true rfl, Nat.le_of_ble_eq_true rfl⟩) gP0 rfl rfl hl.1 rfl (lv_room (Nat.le_of_ble_eq_true rfl)) dX10_drop_1 ⟨Nat.le_of_ble_eq_true rfl, Nat.le_of_ble_eq_true rfl⟩) (fun r1 er1 => ?_)
  refine lv_if_ne (tgt := 10) hx hb dX10_drop_4 (by decide) (fun c4 => ?_) (fun c4 => ?_)
  · refine lv_aload_n hx hb dX10_drop_10 rfl (lv_at hl 0 rfl) ?_
    refine va_get (D := eD E) (cl := vwCl) (tys := eT E) (ci := 9) (C := RX10) (T := TX10) (N := 12) (v := .ref (eC E 3)) hx hb hts hinX10 hown hE.1 hW.1 11 rfl rfl 1 (by decide) (hts (.fieldLink RX10 18 "DialGarden" "things" "[LDialGarden$Thing;") (by decide +kernel)) (fun _ h9 => h9) rfl dX10_drop_11 ?_
    refine lv_iload_n hx hb dX10_drop_14 rfl (lv_at hl 1 rfl) ?_
    refine va_aldq (D := eD E) (cl := vwCl) (tys := eT E) (f := S.2.1 3) hx hb hE.1 hW.1 14 4 rfl rfl (vx (isPc_of er1 c4).1 (isPc_of er1 c4).2) dX10_drop_15 ?_
    rcases ho15 : S.2.1 3 (p1.toNatClampNeg) with _ | a15
    · refine lv_ifnonnullN hx hb dX10_drop_16 ?_
      refine lv_ldc hx hb (v := (-2000000002)) hown (hts (.constant RX10 176 (-2000000002)) (by decide +kernel)) dX10_drop_19 ?_
      exact W.iret (v := (-2000000002)) hx hb hr (fun t ht _ => ⟨⟨(-2000000002), S, rfl, by subst er1; first | (simp only [q_X10_drop, if_neg c4, ho15]; done) | contradiction, by dsimp only; rw [ht]; exact hW⟩, hS.F ht⟩) hS.2.2 dX10_drop_21
    · refine lv_ifnonnull (tgt := 22) hx hb dX10_drop_16 (by decide) ?_
      refine lv_aload_n hx hb dX10_drop_22 rfl (lv_at hl 0 rfl) ?_
      refine lv_iload_n hx hb dX10_drop_23 rfl (lv_at hl 1 rfl) ?_
      refine lv_null hx hb dX10_drop_24 ?_
      refine va_callv (va_runV (As := [.int (p1), .null]) (rest := []) ⟨hx, hb, hml, hown, hts⟩ (c_X10_put l E M S p1 none (by intro b h; cases h) (isPc_of er1 c4) hT) (cwV 2 hts gX10_drop_X10_put rfl rfl rfl (by decide +kernel) ⟨Nat.le_of_ble_eq_true rfl, Nat.le_of_ble_eq_true rfl⟩) (gP.V (ci := 9) (q := (RX10, TX10, 12)) (q0 := 11) hE hS hW rfl rfl) rfl rfl hl.1 rfl (lv_room (Nat.le_of_ble_eq_true rfl)) dX10_drop_25 ⟨Nat.le_of_ble_eq_true rfl, Nat.le_of_ble_eq_true rfl⟩) hS (fun _ _ h => h) (fun _ h => h) (fun S25 t H locs ht hvm hw hB hz1 hk1 hS => ?_)
      have eS25 : S25 = q_X10_put S p1 none := hw
      clear hw
      have hW : gW E M S25 H := by rw [← ht]; exact hB
      have hpS25 : S25.2.2 = S.2.2 := by rw [eS25]; exact (qp_X10_put _ _ _)
      refine lv_iconst (v := 0) hx hb dX10_drop_28 (by decide) ?_
      exact W.iret (v := 0) hx hb hr (fun t ht _ => ⟨⟨0, S25, rfl, by subst eS25; subst er1; first | (simp only [q_X10_drop, if_neg c4, ho15]; done) | contradiction, by dsimp only; rw [ht]; exact hW⟩, hS.F ht⟩) hS.2.2 dX10_drop_29
  · refine lv_ldc hx hb (v := (-2000000001)) hown (hts (.constant RX10 86 (-2000000001)) (by decide +kernel)) dX10_drop_7 ?_
    exact W.iret (v := (-2000000001)) hx hb hr (fun t ht _ => ⟨⟨(-2000000001), S, rfl, by subst er1; first | (simp only [q_X10_drop, if_pos c4]; done) | contradiction, by dsimp only; rw [ht]; exact hW⟩, hS.F ht⟩) hS.2.2 dX10_drop_9

def q_X10_isOf (S : gSc) (p1 : Int32) (p2 : Int32) : Int32 := (let r1 := q_X10_isPlace p1; (if r1 = 0 then (-2000000001) else (let r8 := q_X10_isKind p2; (if r8 = 0 then (-2000000001) else (match q_X10_dialAt S p1 p2 with | none => 0 | some a20 => 1)))))
set_option maxHeartbeats 4000000 in
set_option maxRecDepth 100000 in
theorem c_X10_isOf (l : Launch) (E : gEE) (M : gSm) (S : gSc) (p1 : Int32) (p2 : Int32) (hT : okR S 3 40) : Met l yX10_isOf wsX10_isOf ({ frames := 4, cells := 0, slots := 0, locals := 90 }) (va_Pc [.ref (eC E 0), .int (p1), .int (p2)] (gP E M S)) (vp_Si (fun r => r = q_X10_isOf S p1 p2)) 0 0 (fun _ => False) := by
  refine Met.ofW (cc := cX10_isOf) (maxL := 3) (ret := (some .int)) (by decide) rfl ?_
  intro p e s m args below meth c s₁ B hml hv
  obtain ⟨rfl, hE, hW⟩ := hv
  have hx := B.exec
  have hb := B.bytes
  have hr := B.returns
  have hts := atoms_spec (ws := wsX10_isOf) B.pre
  have hown : s.vm.findClass RX10 = some m.cls := findClass_of_methodNamed B.named
  have hlocks := B.notSynchronized
  have hS : va_S (eA E) s.heap s.heap [] := va_S.rf
  have hl := lv_entry ([.ref (eC E 0), .int (p1), .int (p2)]) (n := 3) (Nat.le_of_ble_eq_true rfl)
  rw [lg_entry_eq]
  generalize (lg_sl ([.ref (eC E 0), .int (p1), .int (p2)]) ++ List.replicate (3 - (lg_sl ([.ref (eC E 0), .int (p1), .int (p2)])).length) Slot.unset).toArray = ls at hl ⊢
  have hl : lv_has ls 3 [(0, .ref (eC E 0)), (1, .int (p1)), (2, .int (p2))] := hl
  refine lv_iload_n hx hb dX10_isOf_0 rfl (lv_at hl 1 rfl) ?_
  refine k_Si (va_runS (As := [.int (p1)]) (rest := []) ⟨hx, hb, hml, hown, hts⟩ (c_X10_isPlace l p1) (va_cwS 1 hts gX10_isOf_X10_isPlace rfl rfl rfl (by decide +kernel) ⟨Nat.le_of_ble_eq_true rfl, Nat.le_of_ble_eq_true rfl⟩) gP0 rfl rfl hl.1 rfl (lv_room (Nat.le_of_ble_eq_true rfl)) dX10_isOf_1 ⟨Nat.le_of_ble_eq_true rfl, Nat.le_of_ble_eq_true rfl⟩) (fun r1 er1 => ?_)
  refine lv_if_eq (tgt := 14) hx hb dX10_isOf_4 (by decide) (fun c4 => ?_) (fun c4 => ?_)
  · refine lv_ldc hx hb (v := (-2000000001)) hown (hts (.constant RX10 86 (-2000000001)) (by decide +kernel)) dX10_isOf_14 ?_
    exact W.iret (v := (-2000000001)) hx hb hr (fun t ht _ => ⟨(-2000000001), rfl, by subst er1; first | (simp only [q_X10_isOf, if_pos c4]; done) | contradiction, ht⟩) (fun _ h => nomatch h) dX10_isOf_16
  · refine lv_iload_n hx hb dX10_isOf_7 rfl (lv_at hl 2 rfl) ?_
    refine k_Si (va_runS (As := [.int (p2)]) (rest := []) ⟨hx, hb, hml, hown, hts⟩ (c_X10_isKind l p2) (va_cwS 1 hts gX10_isOf_X10_isKind rfl rfl rfl (by decide +kernel) ⟨Nat.le_of_ble_eq_true rfl, Nat.le_of_ble_eq_true rfl⟩) gP0 rfl rfl hl.1 rfl (lv_room (Nat.le_of_ble_eq_true rfl)) dX10_isOf_8 ⟨Nat.le_of_ble_eq_true rfl, Nat.le_of_ble_eq_true rfl⟩) (fun r8 er8 => ?_)
    refine lv_if_ne (tgt := 17) hx hb dX10_isOf_11 (by decide) (fun c11 => ?_) (fun c11 => ?_)
    · refine lv_aload_n hx hb dX10_isOf_17 rfl (lv_at hl 0 rfl) ?_
      refine lv_iload_n hx hb dX10_isOf_18 rfl (lv_at hl 1 rfl) ?_
      refine lv_iload_n hx hb dX10_isOf_19 rfl (lv_at hl 2 rfl) ?_
      refine k_Sq (va_runV (As := [.int (p1), .int (p2)]) (rest := []) ⟨hx, hb, hml, hown, hts⟩ (c_X10_dialAt l E M S p1 p2 hT) (cwV 2 hts gX10_isOf_X10_dialAt rfl rfl rfl (by decide +kernel) ⟨Nat.le_of_ble_eq_true rfl, Nat.le_of_ble_eq_true rfl⟩) (gP.V (ci := 9) (q := (RX10, TX10, 12)) (q0 := 11) hE hS hW rfl rfl) rfl rfl hl.1 rfl (lv_room (Nat.le_of_ble_eq_true rfl)) dX10_isOf_20 ⟨Nat.le_of_ble_eq_true rfl, Nat.le_of_ble_eq_true rfl⟩) (fun r20 er20 => ?_)
      rcases r20 with _ | a20
      · refine lv_ifnonnullN hx hb dX10_isOf_23 ?_
        refine lv_iconst (v := 0) hx hb dX10_isOf_26 (by decide) ?_
        refine lv_goto (tgt := 31) hx hb dX10_isOf_27 (by decide) ?_
        exact W.iret (v := 0) hx hb hr (fun t ht _ => ⟨0, rfl, by subst er8; subst er1; first | (simp only [q_X10_isOf, if_neg c4, if_neg c11, ← er20]; done) | contradiction, ht⟩) (fun _ h => nomatch h) dX10_isOf_31
      · refine lv_ifnonnull (tgt := 30) hx hb dX10_isOf_23 (by decide) ?_
        refine lv_iconst (v := 1) hx hb dX10_isOf_30 (by decide) ?_
        exact W.iret (v := 1) hx hb hr (fun t ht _ => ⟨1, rfl, by subst er8; subst er1; first | (simp only [q_X10_isOf, if_neg c4, if_neg c11, ← er20]; done) | contradiction, ht⟩) (fun _ h => nomatch h) dX10_isOf_31
    · refine lv_ldc hx hb (v := (-2000000001)) hown (hts (.constant RX10 86 (-2000000001)) (by decide +kernel)) dX10_isOf_14 ?_
      exact W.iret (v := (-2000000001)) hx hb hr (fun t ht _ => ⟨(-2000000001), rfl, by subst er8; subst er1; first | (simp only [q_X10_isOf, if_neg c4, if_pos c11]; done) | contradiction, ht⟩) (fun _ h => nomatch h) dX10_isOf_16

def q_X10_forget (S : gSc)  : Int32 × gSc := (let x7 := S.1 17 4; (x7, pI S 17 4 0))
set_option maxHeartbeats 4000000 in
set_option maxRecDepth 100000 in
theorem c_X10_forget (l : Launch) (E : gEE) (M : gSm) (S : gSc)   : Met l yX10_forget wsX10_forget ({ frames := 0, cells := 0, slots := 0, locals := 0 }) (va_Pc [.ref (eC E 0)] (gP E M S)) (va_Qi (fun r (u : gSc) => (r, u) = q_X10_forget S) (fun u t => gW E M u t.heap) (eA E)) 0 0 (eA E) := by
  refine Met.ofW (cc := cX10_forget) (maxL := 2) (ret := (some .int)) (by decide) rfl ?_
  intro p e s m args below meth c s₁ B hml hv
  obtain ⟨rfl, hE, hW⟩ := hv
  have hx := B.exec
  have hb := B.bytes
  have hr := B.returns
  have hts := atoms_spec (ws := wsX10_forget) B.pre
  have hown : s.vm.findClass RX10 = some m.cls := findClass_of_methodNamed B.named
  have hlocks := B.notSynchronized
  have hinX10 : ∀ w ∈ wsX100, w ∈ wsX10_forget := by decide +kernel
  have hinX7 : ∀ w ∈ wsX70, w ∈ wsX10_forget := by decide +kernel
  have hS : va_S (eA E) s.heap s.heap [] := va_S.rf
  have hl := lv_entry ([.ref (eC E 0)]) (n := 2) (Nat.le_of_ble_eq_true rfl)
  rw [lg_entry_eq]
  generalize (lg_sl ([.ref (eC E 0)]) ++ List.replicate (2 - (lg_sl ([.ref (eC E 0)])).length) Slot.unset).toArray = ls at hl ⊢
  have hl : lv_has ls 2 [(0, .ref (eC E 0))] := hl
  have hS : ∃ (H : Heap) (locs : List Loc), H = s.heap ∧ locs = [] ∧ gW E M S H ∧ va_S (eA E) s.heap H locs := ⟨_, _, rfl, rfl, hW, hS⟩
  clear hW
  obtain ⟨H, locs, eH, el, hW, hS⟩ := hS
  rw [← eH, ← el]
  clear eH el
  refine lv_aload_n hx hb dX10_forget_0 rfl (lv_at hl 0 rfl) ?_
  refine va_get (D := eD E) (cl := vwCl) (tys := eT E) (ci := 9) (C := RX10) (T := TX10) (N := 12) (v := .ref (eC E 17)) hx hb hts hinX10 hown hE.1 hW.1 11 rfl rfl 5 (by decide) (hts (.fieldLink RX10 46 "DialGarden" "sights" "LDialGarden$Sights;") (by decide +kernel)) (fun _ h9 => h9) rfl dX10_forget_1 ?_
  refine va_getN (D := eD E) (cl := vwCl) (tys := eT E) (ci := 7) (C := RX7) (T := TX7) (N := 5) (v := .int (S.1 17 4)) hx hb hts hinX7 hown hE.1 hW.1 28 rfl rfl 4 (by decide) (va_Nw.use rfl (hE.2.2.1 (.fieldLinkNest "DialGarden" 294 "DialGarden$Sights" "size" "I" "DialGarden") (by decide +kernel))) (fun _ h9 => h9) rfl dX10_forget_4 ?_
  refine lv_topi (fun x7 ex7 => ?_)
  refine lv_istore_n (lv' := [(1, .int (x7)), (0, .ref (eC E 0))]) hx hb dX10_forget_7 rfl hl (by decide) rfl (fun ls hl => ?_)
  refine lv_aload_n hx hb dX10_forget_8 rfl (lv_at hl 1 rfl) ?_
  refine va_get (D := eD E) (cl := vwCl) (tys := eT E) (ci := 9) (C := RX10) (T := TX10) (N := 12) (v := .ref (eC E 17)) hx hb hts hinX10 hown hE.1 hW.1 11 rfl rfl 5 (by decide) (hts (.fieldLink RX10 46 "DialGarden" "sights" "LDialGarden$Sights;") (by decide +kernel)) (fun _ h9 => h9) rfl dX10_forget_9 ?_
  refine lv_iconst (v := 0) hx hb dX10_forget_12 (by decide) ?_
  refine va_putN (D := eD E) (cl := vwCl) (tys := eT E) (A := eA E) (ci := 7) (C := RX7) (T := TX7) (N := 5) (v := .int (0)) (ty := .int) hx hb hts hinX7 tyX7 tyX7_ok nmX7 hown hE.1 hW.1 hW.2 hS 28 rfl rfl 4 (by decide) (va_Nw.use rfl (hE.2.2.1 (.fieldLinkNest "DialGarden" 294 "DialGarden$Sights" "size" "I" "DialGarden") (by decide +kernel))) (fun _ h9 => h9) rfl (by decide +kernel) rfl rfl (Nat.le_of_ble_eq_true rfl) dX10_forget_13 (fun H locs hP hD hS => ?_)
  have hW : gW E M (pI S 17 4 0) H := gW.of (uC_17_4 E M S 0) hP hD
  refine lv_iload_n hx hb dX10_forget_16 rfl (lv_at hl 0 rfl) ?_
  exact W.iret (v := x7) hx hb hr (fun t ht _ => ⟨⟨x7, pI S 17 4 0, rfl, by subst ex7; first | (simp only [q_X10_forget]; done) | contradiction, by dsimp only; rw [ht]; exact hW⟩, hS.F ht⟩) hS.2.2 dX10_forget_17

def q_X10_turn (S : gSc) (p1 : Int32) : Int32 := (let r10 := q_X10_within (p1.toInt64) 0 (((S.1 0 7) - 1).toInt64); (if r10 = 0 then (-2000000001) else S.1 22 (p1.toNatClampNeg)))
set_option maxHeartbeats 4000000 in
set_option maxRecDepth 100000 in
theorem c_X10_turn (l : Launch) (E : gEE) (M : gSm) (S : gSc) (p1 : Int32) (ht0 : 0 ≤ (S.1 0 7).toInt) (ht : (S.1 0 7).toInt ≤ 601) : Met l yX10_turn wsX10_turn ({ frames := 1, cells := 0, slots := 0, locals := 25 }) (va_Pc [.ref (eC E 0), .int (p1)] (gP E M S)) (vp_Si (fun r => r = q_X10_turn S p1)) 0 0 (fun _ => False) := by
  refine Met.ofW (cc := cX10_turn) (maxL := 2) (ret := (some .int)) (by decide) rfl ?_
  intro p e s m args below meth c s₁ B hml hv
  obtain ⟨rfl, hE, hW⟩ := hv
  have hx := B.exec
  have hb := B.bytes
  have hr := B.returns
  have hts := atoms_spec (ws := wsX10_turn) B.pre
  have hown : s.vm.findClass RX10 = some m.cls := findClass_of_methodNamed B.named
  have hlocks := B.notSynchronized
  have hinX10 : ∀ w ∈ wsX100, w ∈ wsX10_turn := by decide +kernel
  have hS : va_S (eA E) s.heap s.heap [] := va_S.rf
  have hl := lv_entry ([.ref (eC E 0), .int (p1)]) (n := 2) (Nat.le_of_ble_eq_true rfl)
  rw [lg_entry_eq]
  generalize (lg_sl ([.ref (eC E 0), .int (p1)]) ++ List.replicate (2 - (lg_sl ([.ref (eC E 0), .int (p1)])).length) Slot.unset).toArray = ls at hl ⊢
  have hl : lv_has ls 2 [(0, .ref (eC E 0)), (1, .int (p1))] := hl
  refine lv_iload_n hx hb dX10_turn_0 rfl (lv_at hl 1 rfl) ?_
  refine lv_i2l (v := p1.toInt64) hx hb dX10_turn_1 rfl ?_
  refine lv_lconst (v := 0) hx hb dX10_turn_2 (by decide) ?_
  refine lv_aload_n hx hb dX10_turn_3 rfl (lv_at hl 0 rfl) ?_
  refine va_get (D := eD E) (cl := vwCl) (tys := eT E) (ci := 9) (C := RX10) (T := TX10) (N := 12) (v := .int (S.1 0 7)) hx hb hts hinX10 hown hE.1 hW.1 11 rfl rfl 7 (by decide) (hts (.fieldLink RX10 54 "DialGarden" "turnCount" "I") (by decide +kernel)) (fun _ h9 => h9) rfl dX10_turn_4 ?_
  refine lv_iconst (v := 1) hx hb dX10_turn_7 (by decide) ?_
  refine lv_isub hx hb dX10_turn_8 ?_
  refine lv_i2l (v := ((S.1 0 7) - 1).toInt64) hx hb dX10_turn_9 rfl ?_
  refine k_Si (va_runS (As := [.long (p1.toInt64), .long (0), .long (((S.1 0 7) - 1).toInt64)]) (rest := []) ⟨hx, hb, hml, hown, hts⟩ (c_X10_within l (p1.toInt64) 0 (((S.1 0 7) - 1).toInt64)) (va_cwS 3 hts gX10_turn_X10_within rfl rfl rfl (by decide +kernel) ⟨Nat.le_of_ble_eq_true rfl, Nat.le_of_ble_eq_true rfl⟩) gP0 rfl rfl hl.1 rfl (lv_room (Nat.le_of_ble_eq_true rfl)) dX10_turn_10 ⟨Nat.le_of_ble_eq_true rfl, Nat.le_of_ble_eq_true rfl⟩) (fun r10 er10 => ?_)
  refine lv_if_eq (tgt := 25) hx hb dX10_turn_13 (by decide) (fun c13 => ?_) (fun c13 => ?_)
  · refine lv_ldc hx hb (v := (-2000000001)) hown (hts (.constant RX10 86 (-2000000001)) (by decide +kernel)) dX10_turn_25 ?_
    exact W.iret (v := (-2000000001)) hx hb hr (fun t ht _ => ⟨(-2000000001), rfl, by subst er10; first | (simp only [q_X10_turn, if_pos c13]; done) | contradiction, ht⟩) (fun _ h => nomatch h) dX10_turn_27
  · refine lv_aload_n hx hb dX10_turn_16 rfl (lv_at hl 0 rfl) ?_
    refine va_get (D := eD E) (cl := vwCl) (tys := eT E) (ci := 9) (C := RX10) (T := TX10) (N := 12) (v := .ref (eC E 22)) hx hb hts hinX10 hown hE.1 hW.1 11 rfl rfl 6 (by decide) (hts (.fieldLink RX10 50 "DialGarden" "turns" "[I") (by decide +kernel)) (fun _ h9 => h9) rfl dX10_turn_17 ?_
    refine lv_iload_n hx hb dX10_turn_20 rfl (lv_at hl 1 rfl) ?_
    refine va_iald (D := eD E) (cl := vwCl) (tys := eT E) (f := S.1 22) hx hb hE.1 hW.1 33 0 rfl rfl (wi_in er10 c13 ht0 ht) dX10_turn_21 ?_
    refine lv_goto (tgt := 27) hx hb dX10_turn_22 (by decide) ?_
    exact W.iret (v := S.1 22 (p1.toNatClampNeg)) hx hb hr (fun t ht _ => ⟨S.1 22 (p1.toNatClampNeg), rfl, by subst er10; first | (simp only [q_X10_turn, if_neg c13]; done) | contradiction, ht⟩) (fun _ h => nomatch h) dX10_turn_27
