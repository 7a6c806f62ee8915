def q_X10_countDials_b13 (S : gSc)  : Nat → Int32 → Int32 → Int32 → Int32
  | 0, v1, v3, v4 => 0
  | n + 1, v1, v3, v4 => (if v3 ≤ v4 then v1 else (match S.2.1 3 (v4.toNatClampNeg) with | none => (let x36 := v4 + 1; q_X10_countDials_b13 S n v1 v3 x36) | some a22 => (if S.2.2.2.1 a22 = 1 then (let x33 := v1 + 1; (let x36 := v4 + 1; q_X10_countDials_b13 S n x33 v3 x36)) else (let x36 := v4 + 1; q_X10_countDials_b13 S n v1 v3 x36))))
def q_X10_countDials (S : gSc)  : Int32 := q_X10_countDials_b13 S 41 0 40 0
set_option maxHeartbeats 4000000 in
set_option maxRecDepth 100000 in
theorem c_X10_countDials (l : Launch) (E : gEE) (M : gSm) (S : gSc)  (hT : okR S 3 40) : Met l yX10_countDials wsX10_countDials ({ frames := 0, cells := 0, slots := 0, locals := 0 }) (va_Pc [.ref (eC E 0)] (gP E M S)) (vp_Si (fun r => r = q_X10_countDials S)) 0 0 (fun _ => False) := by
  refine Met.ofW (cc := cX10_countDials) (maxL := 6) (ret := (some .int)) (by decide) rfl ?_
  intro p e s m args below meth c s₁ B hml hv
  obtain ⟨rfl, hE, hW⟩ := hv
  have hx := B.exec
  have hb := B.bytes
  have hr := B.returns
  have hts := atoms_spec (ws := wsX10_countDials) B.pre
  have hown : s.vm.findClass RX10 = some m.cls := findClass_of_methodNamed B.named
  have hlocks := B.notSynchronized
  have hinX10 : ∀ w ∈ wsX100, w ∈ wsX10_countDials := by decide +kernel
  have hS : va_S (eA E) s.heap s.heap [] := va_S.rf
  have hl := lv_entry ([.ref (eC E 0)]) (n := 6) (Nat.le_of_ble_eq_true rfl)
  rw [lg_entry_eq]
  generalize (lg_sl ([.ref (eC E 0)]) ++ List.replicate (6 - (lg_sl ([.ref (eC E 0)])).length) Slot.unset).toArray = ls at hl ⊢
  have hl : lv_has ls 6 [(0, .ref (eC E 0))] := hl
  have L13 : ∀ n : Nat, ∀ (v1 : Int32) (v3 : Int32) (v4 : Int32) (ls : Array Slot), (gL 40 n v4 ∧ v3 = 40) → q_X10_countDials S = q_X10_countDials_b13 S n v1 v3 v4 → lv_has ls 6 [(1, .int (v1)), (2, .ref (eC E 3)), (3, .int (v3)), (4, .int (v4))] → W p l e (headSpec wsX10_countDials ({ frames := 0, cells := 0, slots := 0, locals := 0 })).room s m ([.ref (eC E 0)] : List Value).toArray below meth c s.heap [] 0 0 (MQ below (vp_Si (fun r => r = q_X10_countDials S)) ([.ref (eC E 0)] : List Value).toArray s 0 0 (fun _ => False)) (F0 m 13 ls []) := by
    intro n
    induction n with
    | zero =>
      intro v1 v3 v4 ls hi hq hl
      exact hi.1.z
    | succ n ih =>
      intro v1 v3 v4 ls hi hq hl
      refine lv_iload hx hb dX10_countDials_13 (lv_at hl 3 rfl) ?_
      refine lv_iload_n hx hb dX10_countDials_15 rfl (lv_at hl 2 rfl) ?_
      refine lv_icmp_ge (tgt := 42) hx hb dX10_countDials_16 (by decide) (fun c16 => ?_) (fun c16 => ?_)
      · refine lv_iload_n hx hb dX10_countDials_42 rfl (lv_at hl 0 rfl) ?_
        exact W.iret (v := v1) hx hb hr (fun t ht _ => ⟨v1, rfl, by rw [hq]; first | (simp only [q_X10_countDials_b13, if_pos c16]; done) | contradiction, ht⟩) (fun _ h => nomatch h) dX10_countDials_43
      · refine lv_aload_n hx hb dX10_countDials_19 rfl (lv_at hl 1 rfl) ?_
        refine lv_iload hx hb dX10_countDials_20 (lv_at hl 3 rfl) ?_
        refine va_aldq (D := eD E) (cl := vwCl) (tys := eT E) (f := S.2.1 3) hx hb hE.1 hW.1 14 4 rfl rfl (vx (hi.1.lt c16 (by rw [hi.2]; decide)).1 (hi.1.lt c16 (by rw [hi.2]; decide)).2) dX10_countDials_22 ?_
        rcases ho22 : S.2.1 3 (v4.toNatClampNeg) with _ | a22
        · refine lv_astoreN (lv' := [(5, .null), (1, .int (v1)), (2, .ref (eC E 3)), (3, .int (v3)), (4, .int (v4))]) hx hb dX10_countDials_23 hl (by decide) rfl (fun ls hl => ?_)
          refine lv_aloadN hx hb dX10_countDials_25 (lv_at hl 0 rfl) ?_
          refine lv_instN hx hb dX10_countDials_27 ?_
          refine lv_if_eq (tgt := 36) hx hb dX10_countDials_30 (by decide) (fun c30 => ?_) (fun c30 => ?_)
          · obtain ⟨x36, ex36⟩ : ∃ y : Int32, y = v4 + 1 := ⟨_, rfl⟩
            refine lv_iinc (v := x36) (lv' := [(4, .int (x36)), (5, .null), (1, .int (v1)), (2, .ref (eC E 3)), (3, .int (v3))]) hx hb dX10_countDials_36 hl (k := 4) rfl (by rw [ex36]; rfl) (by decide) rfl (fun ls hl => ?_)
            refine lv_goto (tgt := 13) hx hb dX10_countDials_39 (by decide) ?_
            exact ih _ _ _ _ (by exact ⟨hi.1.st c16 (by rw [hi.2]; decide) ex36, hi.2⟩) (by rw [hq]; subst ex36; first | (simp only [q_X10_countDials_b13, if_neg c16, ho22]; done) | contradiction) (lv_sub hl [2, 3, 4, 0] rfl)
          · exact absurd c30 (by decide)
        · have hL22 : a22 ∈ S.2.2.1 := hT _ _ (isP_lt (hi.1.lt c16 (by rw [hi.2]; decide))) ho22
          refine lv_astore (lv' := [(5, .ref (a22)), (1, .int (v1)), (2, .ref (eC E 3)), (3, .int (v3)), (4, .int (v4))]) hx hb dX10_countDials_23 hl (by decide) rfl (fun ls hl => ?_)
          refine lv_aload hx hb dX10_countDials_25 (lv_at hl 0 rfl) ?_
          by_cases hK27 : S.2.2.2.1 a22 = 1
          · obtain ⟨k27, hk27⟩ := wJ_d E M (S := S) hL22 hK27
            refine va_instS hx hb hown (hts (.classLink RX10 155 RX1) (by decide +kernel)) (hE.1.1 1 (RX1, TX1, 7) rfl).2 (va_recv hE.1 hW.1 (ci := 1) (q := (RX1, TX1, 7)) rfl hk27) dX10_countDials_27 ?_
            refine lv_if_eq (tgt := 36) hx hb dX10_countDials_30 (by decide) (fun c30 => ?_) (fun c30 => ?_)
            · exact absurd c30 (by decide)
            · obtain ⟨x33, ex33⟩ : ∃ y : Int32, y = v1 + 1 := ⟨_, rfl⟩
              refine lv_iinc (v := x33) (lv' := [(1, .int (x33)), (5, .ref (a22)), (2, .ref (eC E 3)), (3, .int (v3)), (4, .int (v4))]) hx hb dX10_countDials_33 hl (k := 1) rfl (by rw [ex33]; rfl) (by decide) rfl (fun ls hl => ?_)
              obtain ⟨x36, ex36⟩ : ∃ y : Int32, y = v4 + 1 := ⟨_, rfl⟩
              refine lv_iinc (v := x36) (lv' := [(4, .int (x36)), (1, .int (x33)), (5, .ref (a22)), (2, .ref (eC E 3)), (3, .int (v3))]) hx hb dX10_countDials_36 hl (k := 4) rfl (by rw [ex36]; rfl) (by decide) rfl (fun ls hl => ?_)
              refine lv_goto (tgt := 13) hx hb dX10_countDials_39 (by decide) ?_
              exact ih _ _ _ _ (by exact ⟨hi.1.st c16 (by rw [hi.2]; decide) ex36, hi.2⟩) (by rw [hq]; subst ex36; subst ex33; first | (simp only [q_X10_countDials_b13, if_neg c16, if_pos hK27, ho22]; done) | contradiction) (lv_sub hl [1, 3, 4, 0] rfl)
          · obtain ⟨k27, hk27⟩ := wJ_h E M (S := S) hL22 hK27
            refine va_instNo hx hb hown (hts (.classLink RX10 155 RX1) (by decide +kernel)) hE.2.2.2.1 (va_recv hE.1 hW.1 (ci := 2) (q := (RX2, TX2, 5)) rfl hk27) dX10_countDials_27 ?_
            refine lv_if_eq (tgt := 36) hx hb dX10_countDials_30 (by decide) (fun c30 => ?_) (fun c30 => ?_)
            · obtain ⟨x36, ex36⟩ : ∃ y : Int32, y = v4 + 1 := ⟨_, rfl⟩
              refine lv_iinc (v := x36) (lv' := [(4, .int (x36)), (5, .ref (a22)), (1, .int (v1)), (2, .ref (eC E 3)), (3, .int (v3))]) hx hb dX10_countDials_36 hl (k := 4) rfl (by rw [ex36]; rfl) (by decide) rfl (fun ls hl => ?_)
              refine lv_goto (tgt := 13) hx hb dX10_countDials_39 (by decide) ?_
              exact ih _ _ _ _ (by exact ⟨hi.1.st c16 (by rw [hi.2]; decide) ex36, hi.2⟩) (by rw [hq]; subst ex36; first | (simp only [q_X10_countDials_b13, if_neg c16, if_neg hK27, ho22]; done) | contradiction) (lv_sub hl [2, 3, 4, 0] rfl)
            · exact absurd c30 (by decide)
  refine lv_iconst (v := 0) hx hb dX10_countDials_0 (by decide) ?_
  refine lv_istore_n (lv' := [(1, .int (0)), (0, .ref (eC E 0))]) hx hb dX10_countDials_1 rfl hl (by decide) rfl (fun ls hl => ?_)
  refine lv_aload_n hx hb dX10_countDials_2 rfl (lv_at hl 1 rfl) ?_
  refine va_get (D := eD E) (cl := vwCl) (tys := eT E) (ci := 9) (C := RX10) (T := TX10) (N := 12) (v := .ref (eC E 3)) hx hb hts hinX10 hown hE.1 hW.1 11 rfl rfl 1 (by decide) (hts (.fieldLink RX10 18 "DialGarden" "things" "[LDialGarden$Thing;") (by decide +kernel)) (fun _ h9 => h9) rfl dX10_countDials_3 ?_
  refine lv_astore_n (lv' := [(2, .ref (eC E 3)), (1, .int (0)), (0, .ref (eC E 0))]) hx hb dX10_countDials_6 rfl hl (by decide) rfl (fun ls hl => ?_)
  refine lv_aload_n hx hb dX10_countDials_7 rfl (lv_at hl 0 rfl) ?_
  refine va_alen (D := eD E) (cl := vwCl) (tys := eT E) hx hb hE.1 hW.1 14 4 rfl rfl (v := 40) rfl dX10_countDials_8 ?_
  refine lv_istore_n (lv' := [(3, .int (40)), (2, .ref (eC E 3)), (1, .int (0)), (0, .ref (eC E 0))]) hx hb dX10_countDials_9 rfl hl (by decide) rfl (fun ls hl => ?_)
  refine lv_iconst (v := 0) hx hb dX10_countDials_10 (by decide) ?_
  refine lv_istore (lv' := [(4, .int (0)), (3, .int (40)), (2, .ref (eC E 3)), (1, .int (0)), (0, .ref (eC E 0))]) hx hb dX10_countDials_11 hl (by decide) rfl (fun ls hl => ?_)
  exact L13 41 _ _ _ _ (by exact ⟨gL.i 40, rfl⟩) (by first | (simp only [q_X10_countDials]; done) | contradiction) (lv_sub hl [3, 2, 1, 0] rfl)

def q_X10_countHouses_b13 (S : gSc)  : Nat → Int32 → Int32 → Int32 → Int32
  | 0, v1, v3, v4 => 0
  | n + 1, v1, v3, v4 => (if v3 ≤ v4 then v1 else (match S.2.1 3 (v4.toNatClampNeg) with | none => (let x36 := v4 + 1; q_X10_countHouses_b13 S n v1 v3 x36) | some a22 => (if S.2.2.2.1 a22 = 1 then (let x36 := v4 + 1; q_X10_countHouses_b13 S n v1 v3 x36) else (let x33 := v1 + 1; (let x36 := v4 + 1; q_X10_countHouses_b13 S n x33 v3 x36)))))
def q_X10_countHouses (S : gSc)  : Int32 := q_X10_countHouses_b13 S 41 0 40 0
set_option maxHeartbeats 4000000 in
set_option maxRecDepth 100000 in
theorem c_X10_countHouses (l : Launch) (E : gEE) (M : gSm) (S : gSc)  (hT : okR S 3 40) : Met l yX10_countHouses wsX10_countHouses ({ frames := 0, cells := 0, slots := 0, locals := 0 }) (va_Pc [.ref (eC E 0)] (gP E M S)) (vp_Si (fun r => r = q_X10_countHouses S)) 0 0 (fun _ => False) := by
  refine Met.ofW (cc := cX10_countHouses) (maxL := 6) (ret := (some .int)) (by decide) rfl ?_
  intro p e s m args below meth c s₁ B hml hv
  obtain ⟨rfl, hE, hW⟩ := hv
  have hx := B.exec
  have hb := B.bytes
  have hr := B.returns
  have hts := atoms_spec (ws := wsX10_countHouses) B.pre
  have hown : s.vm.findClass RX10 = some m.cls := findClass_of_methodNamed B.named
  have hlocks := B.notSynchronized
  have hinX10 : ∀ w ∈ wsX100, w ∈ wsX10_countHouses := by decide +kernel
  have hS : va_S (eA E) s.heap s.heap [] := va_S.rf
  have hl := lv_entry ([.ref (eC E 0)]) (n := 6) (Nat.le_of_ble_eq_true rfl)
  rw [lg_entry_eq]
  generalize (lg_sl ([.ref (eC E 0)]) ++ List.replicate (6 - (lg_sl ([.ref (eC E 0)])).length) Slot.unset).toArray = ls at hl ⊢
  have hl : lv_has ls 6 [(0, .ref (eC E 0))] := hl
  have L13 : ∀ n : Nat, ∀ (v1 : Int32) (v3 : Int32) (v4 : Int32) (ls : Array Slot), (gL 40 n v4 ∧ v3 = 40) → q_X10_countHouses S = q_X10_countHouses_b13 S n v1 v3 v4 → lv_has ls 6 [(1, .int (v1)), (2, .ref (eC E 3)), (3, .int (v3)), (4, .int (v4))] → W p l e (headSpec wsX10_countHouses ({ frames := 0, cells := 0, slots := 0, locals := 0 })).room s m ([.ref (eC E 0)] : List Value).toArray below meth c s.heap [] 0 0 (MQ below (vp_Si (fun r => r = q_X10_countHouses S)) ([.ref (eC E 0)] : List Value).toArray s 0 0 (fun _ => False)) (F0 m 13 ls []) := by
    intro n
    induction n with
    | zero =>
      intro v1 v3 v4 ls hi hq hl
      exact hi.1.z
    | succ n ih =>
      intro v1 v3 v4 ls hi hq hl
      refine lv_iload hx hb dX10_countHouses_13 (lv_at hl 3 rfl) ?_
      refine lv_iload_n hx hb dX10_countHouses_15 rfl (lv_at hl 2 rfl) ?_
      refine lv_icmp_ge (tgt := 42) hx hb dX10_countHouses_16 (by decide) (fun c16 => ?_) (fun c16 => ?_)
      · refine lv_iload_n hx hb dX10_countHouses_42 rfl (lv_at hl 0 rfl) ?_
        exact W.iret (v := v1) hx hb hr (fun t ht _ => ⟨v1, rfl, by rw [hq]; first | (simp only [q_X10_countHouses_b13, if_pos c16]; done) | contradiction, ht⟩) (fun _ h => nomatch h) dX10_countHouses_43
      · refine lv_aload_n hx hb dX10_countHouses_19 rfl (lv_at hl 1 rfl) ?_
        refine lv_iload hx hb dX10_countHouses_20 (lv_at hl 3 rfl) ?_
        refine va_aldq (D := eD E) (cl := vwCl) (tys := eT E) (f := S.2.1 3) hx hb hE.1 hW.1 14 4 rfl rfl (vx (hi.1.lt c16 (by rw [hi.2]; decide)).1 (hi.1.lt c16 (by rw [hi.2]; decide)).2) dX10_countHouses_22 ?_
        rcases ho22 : S.2.1 3 (v4.toNatClampNeg) with _ | a22
        · refine lv_astoreN (lv' := [(5, .null), (1, .int (v1)), (2, .ref (eC E 3)), (3, .int (v3)), (4, .int (v4))]) hx hb dX10_countHouses_23 hl (by decide) rfl (fun ls hl => ?_)
          refine lv_aloadN hx hb dX10_countHouses_25 (lv_at hl 0 rfl) ?_
          refine lv_instN hx hb dX10_countHouses_27 ?_
          refine lv_if_eq (tgt := 36) hx hb dX10_countHouses_30 (by decide) (fun c30 => ?_) (fun c30 => ?_)
          · obtain ⟨x36, ex36⟩ : ∃ y : Int32, y = v4 + 1 := ⟨_, rfl⟩
            refine lv_iinc (v := x36) (lv' := [(4, .int (x36)), (5, .null), (1, .int (v1)), (2, .ref (eC E 3)), (3, .int (v3))]) hx hb dX10_countHouses_36 hl (k := 4) rfl (by rw [ex36]; rfl) (by decide) rfl (fun ls hl => ?_)
            refine lv_goto (tgt := 13) hx hb dX10_countHouses_39 (by decide) ?_
            exact ih _ _ _ _ (by exact ⟨hi.1.st c16 (by rw [hi.2]; decide) ex36, hi.2⟩) (by rw [hq]; subst ex36; first | (simp only [q_X10_countHouses_b13, if_neg c16, ho22]; done) | contradiction) (lv_sub hl [2, 3, 4, 0] rfl)
          · exact absurd c30 (by decide)
        · have hL22 : a22 ∈ S.2.2.1 := hT _ _ (isP_lt (hi.1.lt c16 (by rw [hi.2]; decide))) ho22
          refine lv_astore (lv' := [(5, .ref (a22)), (1, .int (v1)), (2, .ref (eC E 3)), (3, .int (v3)), (4, .int (v4))]) hx hb dX10_countHouses_23 hl (by decide) rfl (fun ls hl => ?_)
          refine lv_aload hx hb dX10_countHouses_25 (lv_at hl 0 rfl) ?_
          by_cases hK27 : S.2.2.2.1 a22 = 1
          · obtain ⟨k27, hk27⟩ := wJ_d E M (S := S) hL22 hK27
            refine va_instNo hx hb hown (hts (.classLink RX10 171 RX2) (by decide +kernel)) hE.2.2.2.2.1 (va_recv hE.1 hW.1 (ci := 1) (q := (RX1, TX1, 7)) rfl hk27) dX10_countHouses_27 ?_
            refine lv_if_eq (tgt := 36) hx hb dX10_countHouses_30 (by decide) (fun c30 => ?_) (fun c30 => ?_)
            · obtain ⟨x36, ex36⟩ : ∃ y : Int32, y = v4 + 1 := ⟨_, rfl⟩
              refine lv_iinc (v := x36) (lv' := [(4, .int (x36)), (5, .ref (a22)), (1, .int (v1)), (2, .ref (eC E 3)), (3, .int (v3))]) hx hb dX10_countHouses_36 hl (k := 4) rfl (by rw [ex36]; rfl) (by decide) rfl (fun ls hl => ?_)
              refine lv_goto (tgt := 13) hx hb dX10_countHouses_39 (by decide) ?_
              exact ih _ _ _ _ (by exact ⟨hi.1.st c16 (by rw [hi.2]; decide) ex36, hi.2⟩) (by rw [hq]; subst ex36; first | (simp only [q_X10_countHouses_b13, if_neg c16, if_pos hK27, ho22]; done) | contradiction) (lv_sub hl [2, 3, 4, 0] rfl)
            · exact absurd c30 (by decide)
          · obtain ⟨k27, hk27⟩ := wJ_h E M (S := S) hL22 hK27
            refine va_instS hx hb hown (hts (.classLink RX10 171 RX2) (by decide +kernel)) (hE.1.1 2 (RX2, TX2, 5) rfl).2 (va_recv hE.1 hW.1 (ci := 2) (q := (RX2, TX2, 5)) rfl hk27) dX10_countHouses_27 ?_
            refine lv_if_eq (tgt := 36) hx hb dX10_countHouses_30 (by decide) (fun c30 => ?_) (fun c30 => ?_)
            · exact absurd c30 (by decide)
            · obtain ⟨x33, ex33⟩ : ∃ y : Int32, y = v1 + 1 := ⟨_, rfl⟩
              refine lv_iinc (v := x33) (lv' := [(1, .int (x33)), (5, .ref (a22)), (2, .ref (eC E 3)), (3, .int (v3)), (4, .int (v4))]) hx hb dX10_countHouses_33 hl (k := 1) rfl (by rw [ex33]; rfl) (by decide) rfl (fun ls hl => ?_)
              obtain ⟨x36, ex36⟩ : ∃ y : Int32, y = v4 + 1 := ⟨_, rfl⟩
              refine lv_iinc (v := x36) (lv' := [(4, .int (x36)), (1, .int (x33)), (5, .ref (a22)), (2, .ref (eC E 3)), (3, .int (v3))]) hx hb dX10_countHouses_36 hl (k := 4) rfl (by rw [ex36]; rfl) (by decide) rfl (fun ls hl => ?_)
              refine lv_goto (tgt := 13) hx hb dX10_countHouses_39 (by decide) ?_
              exact ih _ _ _ _ (by exact ⟨hi.1.st c16 (by rw [hi.2]; decide) ex36, hi.2⟩) (by rw [hq]; subst ex36; subst ex33; first | (simp only [q_X10_countHouses_b13, if_neg c16, if_neg hK27, ho22]; done) | contradiction) (lv_sub hl [1, 3, 4, 0] rfl)
  refine lv_iconst (v := 0) hx hb dX10_countHouses_0 (by decide) ?_
  refine lv_istore_n (lv' := [(1, .int (0)), (0, .ref (eC E 0))]) hx hb dX10_countHouses_1 rfl hl (by decide) rfl (fun ls hl => ?_)
  refine lv_aload_n hx hb dX10_countHouses_2 rfl (lv_at hl 1 rfl) ?_
  refine va_get (D := eD E) (cl := vwCl) (tys := eT E) (ci := 9) (C := RX10) (T := TX10) (N := 12) (v := .ref (eC E 3)) hx hb hts hinX10 hown hE.1 hW.1 11 rfl rfl 1 (by decide) (hts (.fieldLink RX10 18 "DialGarden" "things" "[LDialGarden$Thing;") (by decide +kernel)) (fun _ h9 => h9) rfl dX10_countHouses_3 ?_
  refine lv_astore_n (lv' := [(2, .ref (eC E 3)), (1, .int (0)), (0, .ref (eC E 0))]) hx hb dX10_countHouses_6 rfl hl (by decide) rfl (fun ls hl => ?_)
  refine lv_aload_n hx hb dX10_countHouses_7 rfl (lv_at hl 0 rfl) ?_
  refine va_alen (D := eD E) (cl := vwCl) (tys := eT E) hx hb hE.1 hW.1 14 4 rfl rfl (v := 40) rfl dX10_countHouses_8 ?_
  refine lv_istore_n (lv' := [(3, .int (40)), (2, .ref (eC E 3)), (1, .int (0)), (0, .ref (eC E 0))]) hx hb dX10_countHouses_9 rfl hl (by decide) rfl (fun ls hl => ?_)
  refine lv_iconst (v := 0) hx hb dX10_countHouses_10 (by decide) ?_
  refine lv_istore (lv' := [(4, .int (0)), (3, .int (40)), (2, .ref (eC E 3)), (1, .int (0)), (0, .ref (eC E 0))]) hx hb dX10_countHouses_11 hl (by decide) rfl (fun ls hl => ?_)
  exact L13 41 _ _ _ _ (by exact ⟨gL.i 40, rfl⟩) (by first | (simp only [q_X10_countHouses]; done) | contradiction) (lv_sub hl [3, 2, 1, 0] rfl)

def q_X10_count (S : gSc) (p1 : Int32) : Int32 := (if p1 = 0 then (let r45 := q_X10_countDials S; (let r49 := q_X10_countHouses S; r45 + r49)) else if p1 = 1 then (let r55 := q_X10_countDials S; r55) else if p1 = 2 then (let r60 := q_X10_countHouses S; r60) else if p1 = 3 then S.1 1 1 else if p1 = 4 then S.1 17 4 else if p1 = 5 then S.1 4 3 else if p1 = 6 then S.1 0 7 else (-2000000001))
set_option maxHeartbeats 4000000 in
set_option maxRecDepth 100000 in
theorem c_X10_count (l : Launch) (E : gEE) (M : gSm) (S : gSc) (p1 : Int32) (hT : okR S 3 40) : Met l yX10_count wsX10_count ({ frames := 1, cells := 0, slots := 0, locals := 25 }) (va_Pc [.ref (eC E 0), .int (p1)] (gP E M S)) (vp_Si (fun r => r = q_X10_count S p1)) 0 0 (fun _ => False) := by
  refine Met.ofW (cc := cX10_count) (maxL := 2) (ret := (some .int)) (by decide) rfl ?_
  intro p e s m args below meth c s₁ B hml hv
  obtain ⟨rfl, hE, hW⟩ := hv
  have hx := B.exec
  have hb := B.bytes
  have hr := B.returns
  have hts := atoms_spec (ws := wsX10_count) B.pre
  have hown : s.vm.findClass RX10 = some m.cls := findClass_of_methodNamed B.named
  have hlocks := B.notSynchronized
  have hinX0 : ∀ w ∈ wsX00, w ∈ wsX10_count := by decide +kernel
  have hinX10 : ∀ w ∈ wsX100, w ∈ wsX10_count := by decide +kernel
  have hinX7 : ∀ w ∈ wsX70, w ∈ wsX10_count := by decide +kernel
  have hinX8 : ∀ w ∈ wsX80, w ∈ wsX10_count := by decide +kernel
  have hS : va_S (eA E) s.heap s.heap [] := va_S.rf
  have hl := lv_entry ([.ref (eC E 0), .int (p1)]) (n := 2) (Nat.le_of_ble_eq_true rfl)
  rw [lg_entry_eq]
  generalize (lg_sl ([.ref (eC E 0), .int (p1)]) ++ List.replicate (2 - (lg_sl ([.ref (eC E 0), .int (p1)])).length) Slot.unset).toArray = ls at hl ⊢
  have hl : lv_has ls 2 [(0, .ref (eC E 0)), (1, .int (p1))] := hl
  refine lv_iload_n hx hb dX10_count_0 rfl (lv_at hl 1 rfl) ?_
  by_cases c1_0 : p1 = 0
  · refine lv_tableIn (tgt := 44) (off := 43) hx hb dX10_count_1 (by rw [c1_0]; decide) (by rw [c1_0]; decide) (by rw [c1_0]; rfl) (by decide) ?_
    refine lv_aload_n hx hb dX10_count_44 rfl (lv_at hl 0 rfl) ?_
    refine k_Si (va_runV (As := []) (rest := []) ⟨hx, hb, hml, hown, hts⟩ (c_X10_countDials l E M S hT) (cwV 0 hts gX10_count_X10_countDials rfl rfl rfl (by decide +kernel) ⟨Nat.le_of_ble_eq_true rfl, Nat.le_of_ble_eq_true rfl⟩) (gP.V (ci := 9) (q := (RX10, TX10, 12)) (q0 := 11) hE hS hW rfl rfl) rfl rfl hl.1 rfl (lv_room (Nat.le_of_ble_eq_true rfl)) dX10_count_45 ⟨Nat.le_of_ble_eq_true rfl, Nat.le_of_ble_eq_true rfl⟩) (fun r45 er45 => ?_)
    refine lv_aload_n hx hb dX10_count_48 rfl (lv_at hl 0 rfl) ?_
    refine k_Si (va_runV (As := []) (rest := [.int (r45)]) ⟨hx, hb, hml, hown, hts⟩ (c_X10_countHouses l E M S hT) (cwV 0 hts gX10_count_X10_countHouses rfl rfl rfl (by decide +kernel) ⟨Nat.le_of_ble_eq_true rfl, Nat.le_of_ble_eq_true rfl⟩) (gP.V (ci := 9) (q := (RX10, TX10, 12)) (q0 := 11) hE hS hW rfl rfl) rfl rfl hl.1 rfl (lv_room (Nat.le_of_ble_eq_true rfl)) dX10_count_49 ⟨Nat.le_of_ble_eq_true rfl, Nat.le_of_ble_eq_true rfl⟩) (fun r49 er49 => ?_)
    refine lv_iadd hx hb dX10_count_52 ?_
    exact W.iret (v := r45 + r49) hx hb hr (fun t ht _ => ⟨r45 + r49, rfl, by subst er49; subst er45; first | (simp only [q_X10_count, if_pos c1_0]; done) | contradiction, ht⟩) (fun _ h => nomatch h) dX10_count_53
  by_cases c1_1 : p1 = 1
  · refine lv_tableIn (tgt := 54) (off := 53) hx hb dX10_count_1 (by rw [c1_1]; decide) (by rw [c1_1]; decide) (by rw [c1_1]; rfl) (by decide) ?_
    refine lv_aload_n hx hb dX10_count_54 rfl (lv_at hl 0 rfl) ?_
    refine k_Si (va_runV (As := []) (rest := []) ⟨hx, hb, hml, hown, hts⟩ (c_X10_countDials l E M S hT) (cwV 0 hts gX10_count_X10_countDials rfl rfl rfl (by decide +kernel) ⟨Nat.le_of_ble_eq_true rfl, Nat.le_of_ble_eq_true rfl⟩) (gP.V (ci := 9) (q := (RX10, TX10, 12)) (q0 := 11) hE hS hW rfl rfl) rfl rfl hl.1 rfl (lv_room (Nat.le_of_ble_eq_true rfl)) dX10_count_55 ⟨Nat.le_of_ble_eq_true rfl, Nat.le_of_ble_eq_true rfl⟩) (fun r55 er55 => ?_)
    exact W.iret (v := r55) hx hb hr (fun t ht _ => ⟨r55, rfl, by subst er55; first | (simp only [q_X10_count, if_neg c1_0, if_pos c1_1]; done) | contradiction, ht⟩) (fun _ h => nomatch h) dX10_count_58
  by_cases c1_2 : p1 = 2
  · refine lv_tableIn (tgt := 59) (off := 58) hx hb dX10_count_1 (by rw [c1_2]; decide) (by rw [c1_2]; decide) (by rw [c1_2]; rfl) (by decide) ?_
    refine lv_aload_n hx hb dX10_count_59 rfl (lv_at hl 0 rfl) ?_
    refine k_Si (va_runV (As := []) (rest := []) ⟨hx, hb, hml, hown, hts⟩ (c_X10_countHouses l E M S hT) (cwV 0 hts gX10_count_X10_countHouses rfl rfl rfl (by decide +kernel) ⟨Nat.le_of_ble_eq_true rfl, Nat.le_of_ble_eq_true rfl⟩) (gP.V (ci := 9) (q := (RX10, TX10, 12)) (q0 := 11) hE hS hW rfl rfl) rfl rfl hl.1 rfl (lv_room (Nat.le_of_ble_eq_true rfl)) dX10_count_60 ⟨Nat.le_of_ble_eq_true rfl, Nat.le_of_ble_eq_true rfl⟩) (fun r60 er60 => ?_)
    exact W.iret (v := r60) hx hb hr (fun t ht _ => ⟨r60, rfl, by subst er60; first | (simp only [q_X10_count, if_neg c1_0, if_neg c1_1, if_pos c1_2]; done) | contradiction, ht⟩) (fun _ h => nomatch h) dX10_count_63
  by_cases c1_3 : p1 = 3
  · refine lv_tableIn (tgt := 64) (off := 63) hx hb dX10_count_1 (by rw [c1_3]; decide) (by rw [c1_3]; decide) (by rw [c1_3]; rfl) (by decide) ?_
    refine lv_aload_n hx hb dX10_count_64 rfl (lv_at hl 0 rfl) ?_
    refine va_get (D := eD E) (cl := vwCl) (tys := eT E) (ci := 9) (C := RX10) (T := TX10) (N := 12) (v := .ref (eC E 1)) hx hb hts hinX10 hown hE.1 hW.1 11 rfl rfl 0 (by decide) (hts (.fieldLink RX10 10 "DialGarden" "sky" "LDialGarden$Sky;") (by decide +kernel)) (fun _ h9 => h9) rfl dX10_count_65 ?_
    refine va_getN (D := eD E) (cl := vwCl) (tys := eT E) (ci := 8) (C := RX8) (T := TX8) (N := 16) (v := .int (S.1 1 1)) hx hb hts hinX8 hown hE.1 hW.1 12 rfl rfl 1 (by decide) (va_Nw.use rfl (hE.2.2.1 (.fieldLinkNest "DialGarden" 103 "DialGarden$Sky" "known" "I" "DialGarden") (by decide +kernel))) (fun _ h9 => h9) rfl dX10_count_68 ?_
    exact W.iret (v := S.1 1 1) hx hb hr (fun t ht _ => ⟨S.1 1 1, rfl, by first | (simp only [q_X10_count, if_neg c1_0, if_neg c1_1, if_neg c1_2, if_pos c1_3]; done) | contradiction, ht⟩) (fun _ h => nomatch h) dX10_count_71
  by_cases c1_4 : p1 = 4
  · refine lv_tableIn (tgt := 72) (off := 71) hx hb dX10_count_1 (by rw [c1_4]; decide) (by rw [c1_4]; decide) (by rw [c1_4]; rfl) (by decide) ?_
    refine lv_aload_n hx hb dX10_count_72 rfl (lv_at hl 0 rfl) ?_
    refine va_get (D := eD E) (cl := vwCl) (tys := eT E) (ci := 9) (C := RX10) (T := TX10) (N := 12) (v := .ref (eC E 17)) hx hb hts hinX10 hown hE.1 hW.1 11 rfl rfl 5 (by decide) (hts (.fieldLink RX10 46 "DialGarden" "sights" "LDialGarden$Sights;") (by decide +kernel)) (fun _ h9 => h9) rfl dX10_count_73 ?_
    refine va_getN (D := eD E) (cl := vwCl) (tys := eT E) (ci := 7) (C := RX7) (T := TX7) (N := 5) (v := .int (S.1 17 4)) hx hb hts hinX7 hown hE.1 hW.1 28 rfl rfl 4 (by decide) (va_Nw.use rfl (hE.2.2.1 (.fieldLinkNest "DialGarden" 294 "DialGarden$Sights" "size" "I" "DialGarden") (by decide +kernel))) (fun _ h9 => h9) rfl dX10_count_76 ?_
    exact W.iret (v := S.1 17 4) hx hb hr (fun t ht _ => ⟨S.1 17 4, rfl, by first | (simp only [q_X10_count, if_neg c1_0, if_neg c1_1, if_neg c1_2, if_neg c1_3, if_pos c1_4]; done) | contradiction, ht⟩) (fun _ h => nomatch h) dX10_count_79
  by_cases c1_5 : p1 = 5
  · refine lv_tableIn (tgt := 80) (off := 79) hx hb dX10_count_1 (by rw [c1_5]; decide) (by rw [c1_5]; decide) (by rw [c1_5]; rfl) (by decide) ?_
    refine lv_aload_n hx hb dX10_count_80 rfl (lv_at hl 0 rfl) ?_
    refine va_get (D := eD E) (cl := vwCl) (tys := eT E) (ci := 9) (C := RX10) (T := TX10) (N := 12) (v := .ref (eC E 4)) hx hb hts hinX10 hown hE.1 hW.1 11 rfl rfl 2 (by decide) (hts (.fieldLink RX10 25 "DialGarden" "changes" "LDialGarden$Changes;") (by decide +kernel)) (fun _ h9 => h9) rfl dX10_count_81 ?_
    refine va_getN (D := eD E) (cl := vwCl) (tys := eT E) (ci := 0) (C := RX0) (T := TX0) (N := 4) (v := .int (S.1 4 3)) hx hb hts hinX0 hown hE.1 hW.1 15 rfl rfl 3 (by decide) (va_Nw.use rfl (hE.2.2.1 (.fieldLinkNest "DialGarden" 215 "DialGarden$Changes" "kept" "I" "DialGarden") (by decide +kernel))) (fun _ h9 => h9) rfl dX10_count_84 ?_
    exact W.iret (v := S.1 4 3) hx hb hr (fun t ht _ => ⟨S.1 4 3, rfl, by first | (simp only [q_X10_count, if_neg c1_0, if_neg c1_1, if_neg c1_2, if_neg c1_3, if_neg c1_4, if_pos c1_5]; done) | contradiction, ht⟩) (fun _ h => nomatch h) dX10_count_87
  by_cases c1_6 : p1 = 6
  · refine lv_tableIn (tgt := 88) (off := 87) hx hb dX10_count_1 (by rw [c1_6]; decide) (by rw [c1_6]; decide) (by rw [c1_6]; rfl) (by decide) ?_
    refine lv_aload_n hx hb dX10_count_88 rfl (lv_at hl 0 rfl) ?_
    refine va_get (D := eD E) (cl := vwCl) (tys := eT E) (ci := 9) (C := RX10) (T := TX10) (N := 12) (v := .int (S.1 0 7)) hx hb hts hinX10 hown hE.1 hW.1 11 rfl rfl 7 (by decide) (hts (.fieldLink RX10 54 "DialGarden" "turnCount" "I") (by decide +kernel)) (fun _ h9 => h9) rfl dX10_count_89 ?_
    exact W.iret (v := S.1 0 7) hx hb hr (fun t ht _ => ⟨S.1 0 7, rfl, by first | (simp only [q_X10_count, if_neg c1_0, if_neg c1_1, if_neg c1_2, if_neg c1_3, if_neg c1_4, if_neg c1_5, if_pos c1_6]; done) | contradiction, ht⟩) (fun _ h => nomatch h) dX10_count_92
  refine lv_tableOut (tgt := 93) hx hb dX10_count_1 (sw_out6 c1_0 c1_1 c1_2 c1_3 c1_4 c1_5 c1_6) (by decide) ?_
  refine lv_ldc hx hb (v := (-2000000001)) hown (hts (.constant RX10 86 (-2000000001)) (by decide +kernel)) dX10_count_93 ?_
  exact W.iret (v := (-2000000001)) hx hb hr (fun t ht _ => ⟨(-2000000001), rfl, by first | (simp only [q_X10_count, if_neg c1_0, if_neg c1_1, if_neg c1_2, if_neg c1_3, if_neg c1_4, if_neg c1_5, if_neg c1_6]; done) | contradiction, ht⟩) (fun _ h => nomatch h) dX10_count_95

def q_X10_copy (S : gSc) (p1 : Int32) (p2 : Int32) (p3 : Int32) : Int32 × gSc := (if p3 < 0 then ((-2000000001), S) else (let r17 := q_X10_within (p1.toInt64) 0 (((S.1 1 1) - p3).toInt64); (if r17 = 0 then ((-2000000001), S) else (let r36 := q_X10_within (p2.toInt64) 0 (((S.1 1 1) - p3).toInt64); (if r36 = 0 then ((-2000000001), S) else (0, sI S 2 (va_cpy (S.1 2) (S.1 2) (p1.toNatClampNeg) (p2.toNatClampNeg) (p3.toNatClampNeg))))))))
set_option maxHeartbeats 4000000 in
set_option maxRecDepth 100000 in
theorem c_X10_copy (l : Launch) (E : gEE) (M : gSm) (S : gSc) (p1 : Int32) (p2 : Int32) (p3 : Int32) (hkn0 : 0 ≤ (S.1 1 1).toInt) (hkn : (S.1 1 1).toInt ≤ 366) : Met l yX10_copy wsX10_copy ({ frames := 1, cells := 0, slots := 0, locals := 48 }) (va_Pc [.ref (eC E 0), .int (p1), .int (p2), .int (p3)] (gP E M S)) (va_Qi (fun r (u : gSc) => (r, u) = q_X10_copy S p1 p2 p3) (fun u t => gW E M u t.heap) (eA E)) 0 0 (eA E) := by
  refine Met.ofW (cc := cX10_copy) (maxL := 4) (ret := (some .int)) (by decide) rfl ?_
  intro p e s m args below meth c s₁ B hml hv
  obtain ⟨rfl, hE, hW⟩ := hv
  have hx := B.exec
  have hb := B.bytes
  have hr := B.returns
  have hts := atoms_spec (ws := wsX10_copy) B.pre
  have hown : s.vm.findClass RX10 = some m.cls := findClass_of_methodNamed B.named
  have hlocks := B.notSynchronized
  have hinX10 : ∀ w ∈ wsX100, w ∈ wsX10_copy := by decide +kernel
  have hinX8 : ∀ w ∈ wsX80, w ∈ wsX10_copy := by decide +kernel
  have hS : va_S (eA E) s.heap s.heap [] := va_S.rf
  have hl := lv_entry ([.ref (eC E 0), .int (p1), .int (p2), .int (p3)]) (n := 4) (Nat.le_of_ble_eq_true rfl)
  rw [lg_entry_eq]
  generalize (lg_sl ([.ref (eC E 0), .int (p1), .int (p2), .int (p3)]) ++ List.replicate (4 - (lg_sl ([.ref (eC E 0), .int (p1), .int (p2), .int (p3)])).length) Slot.unset).toArray = ls at hl ⊢
  have hl : lv_has ls 4 [(0, .ref (eC E 0)), (1, .int (p1)), (2, .int (p2)), (3, .int (p3))] := hl
  have hS : ∃ (H : Heap) (locs : List Loc), H = s.heap ∧ locs = [] ∧ gW E M S H ∧ va_S (eA E) s.heap H locs := ⟨_, _, rfl, rfl, hW, hS⟩
  clear hW
  obtain ⟨H, locs, eH, el, hW, hS⟩ := hS
  rw [← eH, ← el]
  clear eH el
  refine lv_iload_n hx hb dX10_copy_0 rfl (lv_at hl 3 rfl) ?_
  refine lv_if_lt (tgt := 42) hx hb dX10_copy_1 (by decide) (fun c1 => ?_) (fun c1 => ?_)
  · refine lv_ldc hx hb (v := (-2000000001)) hown (hts (.constant RX10 86 (-2000000001)) (by decide +kernel)) dX10_copy_42 ?_
    exact W.iret (v := (-2000000001)) hx hb hr (fun t ht _ => ⟨⟨(-2000000001), S, rfl, by first | (simp only [q_X10_copy, if_pos c1]; done) | contradiction, by dsimp only; rw [ht]; exact hW⟩, hS.F ht⟩) hS.2.2 dX10_copy_44
  · refine lv_iload_n hx hb dX10_copy_4 rfl (lv_at hl 1 rfl) ?_
    refine lv_i2l (v := p1.toInt64) hx hb dX10_copy_5 rfl ?_
    refine lv_lconst (v := 0) hx hb dX10_copy_6 (by decide) ?_
    refine lv_aload_n hx hb dX10_copy_7 rfl (lv_at hl 0 rfl) ?_
    refine va_get (D := eD E) (cl := vwCl) (tys := eT E) (ci := 9) (C := RX10) (T := TX10) (N := 12) (v := .ref (eC E 1)) hx hb hts hinX10 hown hE.1 hW.1 11 rfl rfl 0 (by decide) (hts (.fieldLink RX10 10 "DialGarden" "sky" "LDialGarden$Sky;") (by decide +kernel)) (fun _ h9 => h9) rfl dX10_copy_8 ?_
    refine va_getN (D := eD E) (cl := vwCl) (tys := eT E) (ci := 8) (C := RX8) (T := TX8) (N := 16) (v := .int (S.1 1 1)) hx hb hts hinX8 hown hE.1 hW.1 12 rfl rfl 1 (by decide) (va_Nw.use rfl (hE.2.2.1 (.fieldLinkNest "DialGarden" 103 "DialGarden$Sky" "known" "I" "DialGarden") (by decide +kernel))) (fun _ h9 => h9) rfl dX10_copy_11 ?_
    refine lv_iload_n hx hb dX10_copy_14 rfl (lv_at hl 3 rfl) ?_
    refine lv_isub hx hb dX10_copy_15 ?_
    refine lv_i2l (v := ((S.1 1 1) - p3).toInt64) hx hb dX10_copy_16 rfl ?_
    refine k_Si (va_runS (As := [.long (p1.toInt64), .long (0), .long (((S.1 1 1) - p3).toInt64)]) (rest := []) ⟨hx, hb, hml, hown, hts⟩ (c_X10_within l (p1.toInt64) 0 (((S.1 1 1) - p3).toInt64)) (va_cwS 3 hts gX10_copy_X10_within rfl rfl rfl (by decide +kernel) ⟨Nat.le_of_ble_eq_true rfl, Nat.le_of_ble_eq_true rfl⟩) gP0 rfl rfl hl.1 rfl (lv_room (Nat.le_of_ble_eq_true rfl)) dX10_copy_17 ⟨Nat.le_of_ble_eq_true rfl, Nat.le_of_ble_eq_true rfl⟩) (fun r17 er17 => ?_)
    refine lv_if_eq (tgt := 42) hx hb dX10_copy_20 (by decide) (fun c20 => ?_) (fun c20 => ?_)
    · refine lv_ldc hx hb (v := (-2000000001)) hown (hts (.constant RX10 86 (-2000000001)) (by decide +kernel)) dX10_copy_42 ?_
      exact W.iret (v := (-2000000001)) hx hb hr (fun t ht _ => ⟨⟨(-2000000001), S, rfl, by subst er17; first | (simp only [q_X10_copy, if_neg c1, if_pos c20]; done) | contradiction, by dsimp only; rw [ht]; exact hW⟩, hS.F ht⟩) hS.2.2 dX10_copy_44
    · refine lv_iload_n hx hb dX10_copy_23 rfl (lv_at hl 2 rfl) ?_
      refine lv_i2l (v := p2.toInt64) hx hb dX10_copy_24 rfl ?_
      refine lv_lconst (v := 0) hx hb dX10_copy_25 (by decide) ?_
      refine lv_aload_n hx hb dX10_copy_26 rfl (lv_at hl 0 rfl) ?_
      refine va_get (D := eD E) (cl := vwCl) (tys := eT E) (ci := 9) (C := RX10) (T := TX10) (N := 12) (v := .ref (eC E 1)) hx hb hts hinX10 hown hE.1 hW.1 11 rfl rfl 0 (by decide) (hts (.fieldLink RX10 10 "DialGarden" "sky" "LDialGarden$Sky;") (by decide +kernel)) (fun _ h9 => h9) rfl dX10_copy_27 ?_
      refine va_getN (D := eD E) (cl := vwCl) (tys := eT E) (ci := 8) (C := RX8) (T := TX8) (N := 16) (v := .int (S.1 1 1)) hx hb hts hinX8 hown hE.1 hW.1 12 rfl rfl 1 (by decide) (va_Nw.use rfl (hE.2.2.1 (.fieldLinkNest "DialGarden" 103 "DialGarden$Sky" "known" "I" "DialGarden") (by decide +kernel))) (fun _ h9 => h9) rfl dX10_copy_30 ?_
      refine lv_iload_n hx hb dX10_copy_33 rfl (lv_at hl 3 rfl) ?_
      refine lv_isub hx hb dX10_copy_34 ?_
      refine lv_i2l (v := ((S.1 1 1) - p3).toInt64) hx hb dX10_copy_35 rfl ?_
      refine k_Si (va_runS (As := [.long (p2.toInt64), .long (0), .long (((S.1 1 1) - p3).toInt64)]) (rest := []) ⟨hx, hb, hml, hown, hts⟩ (c_X10_within l (p2.toInt64) 0 (((S.1 1 1) - p3).toInt64)) (va_cwS 3 hts gX10_copy_X10_within rfl rfl rfl (by decide +kernel) ⟨Nat.le_of_ble_eq_true rfl, Nat.le_of_ble_eq_true rfl⟩) gP0 rfl rfl hl.1 rfl (lv_room (Nat.le_of_ble_eq_true rfl)) dX10_copy_36 ⟨Nat.le_of_ble_eq_true rfl, Nat.le_of_ble_eq_true rfl⟩) (fun r36 er36 => ?_)
      refine lv_if_ne (tgt := 45) hx hb dX10_copy_39 (by decide) (fun c39 => ?_) (fun c39 => ?_)
      · refine lv_aload_n hx hb dX10_copy_45 rfl (lv_at hl 0 rfl) ?_
        refine va_get (D := eD E) (cl := vwCl) (tys := eT E) (ci := 9) (C := RX10) (T := TX10) (N := 12) (v := .ref (eC E 1)) hx hb hts hinX10 hown hE.1 hW.1 11 rfl rfl 0 (by decide) (hts (.fieldLink RX10 10 "DialGarden" "sky" "LDialGarden$Sky;") (by decide +kernel)) (fun _ h9 => h9) rfl dX10_copy_46 ?_
        refine va_getN (D := eD E) (cl := vwCl) (tys := eT E) (ci := 8) (C := RX8) (T := TX8) (N := 16) (v := .ref (eC E 2)) hx hb hts hinX8 hown hE.1 hW.1 12 rfl rfl 0 (by decide) (va_Nw.use rfl (hE.2.2.1 (.fieldLinkNest "DialGarden" 106 "DialGarden$Sky" "corrections" "[I" "DialGarden") (by decide +kernel))) (fun _ h9 => h9) rfl dX10_copy_49 ?_
        refine lv_iload_n hx hb dX10_copy_52 rfl (lv_at hl 1 rfl) ?_
        refine lv_aload_n hx hb dX10_copy_53 rfl (lv_at hl 0 rfl) ?_
        refine va_get (D := eD E) (cl := vwCl) (tys := eT E) (ci := 9) (C := RX10) (T := TX10) (N := 12) (v := .ref (eC E 1)) hx hb hts hinX10 hown hE.1 hW.1 11 rfl rfl 0 (by decide) (hts (.fieldLink RX10 10 "DialGarden" "sky" "LDialGarden$Sky;") (by decide +kernel)) (fun _ h9 => h9) rfl dX10_copy_54 ?_
        refine va_getN (D := eD E) (cl := vwCl) (tys := eT E) (ci := 8) (C := RX8) (T := TX8) (N := 16) (v := .ref (eC E 2)) hx hb hts hinX8 hown hE.1 hW.1 12 rfl rfl 0 (by decide) (va_Nw.use rfl (hE.2.2.1 (.fieldLinkNest "DialGarden" 106 "DialGarden$Sky" "corrections" "[I" "DialGarden") (by decide +kernel))) (fun _ h9 => h9) rfl dX10_copy_57 ?_
        refine lv_iload_n hx hb dX10_copy_60 rfl (lv_at hl 2 rfl) ?_
        refine lv_iload_n hx hb dX10_copy_61 rfl (lv_at hl 3 rfl) ?_
        refine va_copyi (D := eD E) (cl := vwCl) (tys := eT E) (A := eA E) (f := S.1 2) (g := S.1 2) (ty := .int) (rest := []) hx hb (hml.trans hl.1.symm) hown (hts (.methodLink RX10 109 arraycopyName) (by decide +kernel)) (hts (.native arraycopyName) (by decide +kernel)) (hts (.static arraycopyName) (by decide +kernel)) (hts (.initialized "java/lang/System") (by decide +kernel)) hE.1 hW.1 hW.2 hS 13 13 0 0 rfl rfl rfl rfl rfl (cc_s er17 c20 c1 hkn0 hkn).1 (cc_s er36 c39 c1 hkn0 hkn).1 c1 (cc_s er17 c20 c1 hkn0 hkn).2 (cc_s er36 c39 c1 hkn0 hkn).2 (fun _ _ => rfl) (Nat.le_of_ble_eq_true rfl) (Nat.le_of_ble_eq_true rfl) dX10_copy_62 (fun H locs hP hD hS => ?_)
        have hW : gW E M (sI S 2 (va_cpy (S.1 2) (S.1 2) (p1.toNatClampNeg) (p2.toNatClampNeg) (p3.toNatClampNeg))) H := gW.of (tC_I2 E M S (va_cpy (S.1 2) (S.1 2) (p1.toNatClampNeg) (p2.toNatClampNeg) (p3.toNatClampNeg))) hP hD
        refine lv_iconst (v := 0) hx hb dX10_copy_65 (by decide) ?_
        exact W.iret (v := 0) hx hb hr (fun t ht _ => ⟨⟨0, sI S 2 (va_cpy (S.1 2) (S.1 2) (p1.toNatClampNeg) (p2.toNatClampNeg) (p3.toNatClampNeg)), rfl, by subst er36; subst er17; first | (simp only [q_X10_copy, if_neg c1, if_neg c20, if_neg c39]; done) | contradiction, by dsimp only; rw [ht]; exact hW⟩, hS.F ht⟩) hS.2.2 dX10_copy_66
      · refine lv_ldc hx hb (v := (-2000000001)) hown (hts (.constant RX10 86 (-2000000001)) (by decide +kernel)) dX10_copy_42 ?_
        exact W.iret (v := (-2000000001)) hx hb hr (fun t ht _ => ⟨⟨(-2000000001), S, rfl, by subst er36; subst er17; first | (simp only [q_X10_copy, if_neg c1, if_neg c20, if_pos c39]; done) | contradiction, by dsimp only; rw [ht]; exact hW⟩, hS.F ht⟩) hS.2.2 dX10_copy_44

def q_X10_sight (S : gSc) (p1 : Int32) (p2 : Int32) (p3 : Int32) (p4 : Int32) : Int32 × gSc := (let r2 := q_X10_isTime p1 p2; (if r2 = 0 then ((-2000000001), S) else (let r10 := q_X10_isNear (p3.toInt64); (if r10 = 0 then ((-2000000001), S) else (let r19 := q_X10_isNear (p4.toInt64); (if r19 = 0 then ((-2000000001), S) else (if (S.1 17 4) < 20 then (let S53 := q_X7_add S p1 p2 p3 p4; (S53.1 17 4, S53)) else ((-2000000003), S))))))))
set_option maxHeartbeats 4000000 in
set_option maxRecDepth 100000 in
theorem c_X10_sight (l : Launch) (E : gEE) (M : gSm) (S : gSc) (p1 : Int32) (p2 : Int32) (p3 : Int32) (p4 : Int32) (hs0 : 0 ≤ (S.1 17 4).toInt) : Met l yX10_sight wsX10_sight ({ frames := 3, cells := 0, slots := 0, locals := 66 }) (va_Pc [.ref (eC E 0), .int (p1), .int (p2), .int (p3), .int (p4)] (gP E M S)) (va_Qi (fun r (u : gSc) => (r, u) = q_X10_sight S p1 p2 p3 p4) (fun u t => gW E M u t.heap) (eA E)) 0 0 (eA E) := by
  refine Met.ofW (cc := cX10_sight) (maxL := 5) (ret := (some .int)) (by decide) rfl ?_
  intro p e s m args below meth c s₁ B hml hv
  obtain ⟨rfl, hE, hW⟩ := hv
  have hx := B.exec
  have hb := B.bytes
  have hr := B.returns
  have hts := atoms_spec (ws := wsX10_sight) B.pre
  have hown : s.vm.findClass RX10 = some m.cls := findClass_of_methodNamed B.named
  have hlocks := B.notSynchronized
  have hinX10 : ∀ w ∈ wsX100, w ∈ wsX10_sight := by decide +kernel
  have hinX7 : ∀ w ∈ wsX70, w ∈ wsX10_sight := by decide +kernel
  have hS : va_S (eA E) s.heap s.heap [] := va_S.rf
  have hl := lv_entry ([.ref (eC E 0), .int (p1), .int (p2), .int (p3), .int (p4)]) (n := 5) (Nat.le_of_ble_eq_true rfl)
  rw [lg_entry_eq]
  generalize (lg_sl ([.ref (eC E 0), .int (p1), .int (p2), .int (p3), .int (p4)]) ++ List.replicate (5 - (lg_sl ([.ref (eC E 0), .int (p1), .int (p2), .int (p3), .int (p4)])).length) Slot.unset).toArray = ls at hl ⊢
  have hl : lv_has ls 5 [(0, .ref (eC E 0)), (1, .int (p1)), (2, .int (p2)), (3, .int (p3)), (4, .int (p4))] := hl
  have hS : ∃ (H : Heap) (locs : List Loc), H = s.heap ∧ locs = [] ∧ gW E M S H ∧ va_S (eA E) s.heap H locs := ⟨_, _, rfl, rfl, hW, hS⟩
  clear hW
  obtain ⟨H, locs, eH, el, hW, hS⟩ := hS
  rw [← eH, ← el]
  clear eH el
  refine lv_iload_n hx hb dX10_sight_0 rfl (lv_at hl 1 rfl) ?_
  refine lv_iload_n hx hb dX10_sight_1 rfl (lv_at hl 2 rfl) ?_
  refine k_Si (va_runS (As := [.int (p1), .int (p2)]) (rest := []) ⟨hx, hb, hml, hown, hts⟩ (c_X10_isTime l p1 p2) (va_cwS 2 hts gX10_sight_X10_isTime rfl rfl rfl (by decide +kernel) ⟨Nat.le_of_ble_eq_true rfl, Nat.le_of_ble_eq_true rfl⟩) gP0 rfl rfl hl.1 rfl (lv_room (Nat.le_of_ble_eq_true rfl)) dX10_sight_2 ⟨Nat.le_of_ble_eq_true rfl, Nat.le_of_ble_eq_true rfl⟩) (fun r2 er2 => ?_)
  refine lv_if_eq (tgt := 25) hx hb dX10_sight_5 (by decide) (fun c5 => ?_) (fun c5 => ?_)
  · refine lv_ldc hx hb (v := (-2000000001)) hown (hts (.constant RX10 86 (-2000000001)) (by decide +kernel)) dX10_sight_25 ?_
    exact W.iret (v := (-2000000001)) hx hb hr (fun t ht _ => ⟨⟨(-2000000001), S, rfl, by subst er2; first | (simp only [q_X10_sight, if_pos c5]; done) | contradiction, by dsimp only; rw [ht]; exact hW⟩, hS.F ht⟩) hS.2.2 dX10_sight_27
  · refine lv_iload_n hx hb dX10_sight_8 rfl (lv_at hl 3 rfl) ?_
    refine lv_i2l (v := p3.toInt64) hx hb dX10_sight_9 rfl ?_
    refine k_Si (va_runS (As := [.long (p3.toInt64)]) (rest := []) ⟨hx, hb, hml, hown, hts⟩ (c_X10_isNear l (p3.toInt64)) (va_cwS 1 hts gX10_sight_X10_isNear rfl rfl rfl (by decide +kernel) ⟨Nat.le_of_ble_eq_true rfl, Nat.le_of_ble_eq_true rfl⟩) gP0 rfl rfl hl.1 rfl (lv_room (Nat.le_of_ble_eq_true rfl)) dX10_sight_10 ⟨Nat.le_of_ble_eq_true rfl, Nat.le_of_ble_eq_true rfl⟩) (fun r10 er10 => ?_)
    refine lv_if_eq (tgt := 25) hx hb dX10_sight_13 (by decide) (fun c13 => ?_) (fun c13 => ?_)
    · refine lv_ldc hx hb (v := (-2000000001)) hown (hts (.constant RX10 86 (-2000000001)) (by decide +kernel)) dX10_sight_25 ?_
      exact W.iret (v := (-2000000001)) hx hb hr (fun t ht _ => ⟨⟨(-2000000001), S, rfl, by subst er10; subst er2; first | (simp only [q_X10_sight, if_neg c5, if_pos c13]; done) | contradiction, by dsimp only; rw [ht]; exact hW⟩, hS.F ht⟩) hS.2.2 dX10_sight_27
    · refine lv_iload hx hb dX10_sight_16 (lv_at hl 4 rfl) ?_
      refine lv_i2l (v := p4.toInt64) hx hb dX10_sight_18 rfl ?_
      refine k_Si (va_runS (As := [.long (p4.toInt64)]) (rest := []) ⟨hx, hb, hml, hown, hts⟩ (c_X10_isNear l (p4.toInt64)) (va_cwS 1 hts gX10_sight_X10_isNear rfl rfl rfl (by decide +kernel) ⟨Nat.le_of_ble_eq_true rfl, Nat.le_of_ble_eq_true rfl⟩) gP0 rfl rfl hl.1 rfl (lv_room (Nat.le_of_ble_eq_true rfl)) dX10_sight_19 ⟨Nat.le_of_ble_eq_true rfl, Nat.le_of_ble_eq_true rfl⟩) (fun r19 er19 => ?_)
      refine lv_if_ne (tgt := 28) hx hb dX10_sight_22 (by decide) (fun c22 => ?_) (fun c22 => ?_)
      · refine lv_aload_n hx hb dX10_sight_28 rfl (lv_at hl 0 rfl) ?_
        refine va_get (D := eD E) (cl := vwCl) (tys := eT E) (ci := 9) (C := RX10) (T := TX10) (N := 12) (v := .ref (eC E 17)) hx hb hts hinX10 hown hE.1 hW.1 11 rfl rfl 5 (by decide) (hts (.fieldLink RX10 46 "DialGarden" "sights" "LDialGarden$Sights;") (by decide +kernel)) (fun _ h9 => h9) rfl dX10_sight_29 ?_
        refine va_getN (D := eD E) (cl := vwCl) (tys := eT E) (ci := 7) (C := RX7) (T := TX7) (N := 5) (v := .int (S.1 17 4)) hx hb hts hinX7 hown hE.1 hW.1 28 rfl rfl 4 (by decide) (va_Nw.use rfl (hE.2.2.1 (.fieldLinkNest "DialGarden" 294 "DialGarden$Sights" "size" "I" "DialGarden") (by decide +kernel))) (fun _ h9 => h9) rfl dX10_sight_32 ?_
        refine lv_bipush (v := 20) hx hb dX10_sight_35 (by decide) ?_
        refine lv_icmp_lt (tgt := 44) hx hb dX10_sight_37 (by decide) (fun c37 => ?_) (fun c37 => ?_)
        · refine lv_aload_n hx hb dX10_sight_44 rfl (lv_at hl 0 rfl) ?_
          refine va_get (D := eD E) (cl := vwCl) (tys := eT E) (ci := 9) (C := RX10) (T := TX10) (N := 12) (v := .ref (eC E 17)) hx hb hts hinX10 hown hE.1 hW.1 11 rfl rfl 5 (by decide) (hts (.fieldLink RX10 46 "DialGarden" "sights" "LDialGarden$Sights;") (by decide +kernel)) (fun _ h9 => h9) rfl dX10_sight_45 ?_
          refine lv_iload_n hx hb dX10_sight_48 rfl (lv_at hl 1 rfl) ?_
          refine lv_iload_n hx hb dX10_sight_49 rfl (lv_at hl 2 rfl) ?_
          refine lv_iload_n hx hb dX10_sight_50 rfl (lv_at hl 3 rfl) ?_
          refine lv_iload hx hb dX10_sight_51 (lv_at hl 4 rfl) ?_
          refine va_callv (va_runV (As := [.int (p1), .int (p2), .int (p3), .int (p4)]) (rest := []) ⟨hx, hb, hml, hown, hts⟩ (c_X7_add l E M S p1 p2 p3 p4 hs0) (cwV 4 hts gX10_sight_X7_add rfl rfl rfl (by decide +kernel) ⟨Nat.le_of_ble_eq_true rfl, Nat.le_of_ble_eq_true rfl⟩) (gP.V (ci := 7) (q := (RX7, TX7, 5)) (q0 := 28) hE hS hW rfl rfl) rfl rfl hl.1 rfl (lv_room (Nat.le_of_ble_eq_true rfl)) dX10_sight_53 ⟨Nat.le_of_ble_eq_true rfl, Nat.le_of_ble_eq_true rfl⟩) hS (fun _ _ h => h) (fun _ h => h) (fun S53 t H locs ht hvm hw hB hz1 hk1 hS => ?_)
          have eS53 : S53 = q_X7_add S p1 p2 p3 p4 := hw
          clear hw
          have hW : gW E M S53 H := by rw [← ht]; exact hB
          have hpS53 : S53.2.2 = S.2.2 := by rw [eS53]; exact (qp_X7_add _ _ _ _ _)
          refine lv_aload_n hx hb dX10_sight_56 rfl (lv_at hl 0 rfl) ?_
          refine va_get (D := eD E) (cl := vwCl) (tys := eT E) (ci := 9) (C := RX10) (T := TX10) (N := 12) (v := .ref (eC E 17)) hx hb hts hinX10 hown hE.1 hW.1 11 rfl rfl 5 (by decide) (hts (.fieldLink RX10 46 "DialGarden" "sights" "LDialGarden$Sights;") (by decide +kernel)) (fun _ h9 => h9) rfl dX10_sight_57 ?_
          refine va_getN (D := eD E) (cl := vwCl) (tys := eT E) (ci := 7) (C := RX7) (T := TX7) (N := 5) (v := .int (S53.1 17 4)) hx hb hts hinX7 hown hE.1 hW.1 28 rfl rfl 4 (by decide) (va_Nw.use rfl (hE.2.2.1 (.fieldLinkNest "DialGarden" 294 "DialGarden$Sights" "size" "I" "DialGarden") (by decide +kernel))) (fun _ h9 => h9) rfl dX10_sight_60 ?_
          exact W.iret (v := S53.1 17 4) hx hb hr (fun t ht _ => ⟨⟨S53.1 17 4, S53, rfl, by subst eS53; subst er19; subst er10; subst er2; first | (simp only [q_X10_sight, if_neg c5, if_neg c13, if_neg c22, if_pos c37]; done) | contradiction, by dsimp only; rw [ht]; exact hW⟩, hS.F ht⟩) hS.2.2 dX10_sight_63
        · refine lv_ldcw hx hb (v := (-2000000003)) hown (hts (.constant RX10 295 (-2000000003)) (by decide +kernel)) dX10_sight_40 ?_
          exact W.iret (v := (-2000000003)) hx hb hr (fun t ht _ => ⟨⟨(-2000000003), S, rfl, by subst er19; subst er10; subst er2; first | (simp only [q_X10_sight, if_neg c5, if_neg c13, if_neg c22, if_neg c37]; done) | contradiction, by dsimp only; rw [ht]; exact hW⟩, hS.F ht⟩) hS.2.2 dX10_sight_43
      · refine lv_ldc hx hb (v := (-2000000001)) hown (hts (.constant RX10 86 (-2000000001)) (by decide +kernel)) dX10_sight_25 ?_
        exact W.iret (v := (-2000000001)) hx hb hr (fun t ht _ => ⟨⟨(-2000000001), S, rfl, by subst er19; subst er10; subst er2; first | (simp only [q_X10_sight, if_neg c5, if_neg c13, if_pos c22]; done) | contradiction, by dsimp only; rw [ht]; exact hW⟩, hS.F ht⟩) hS.2.2 dX10_sight_27

def q_X10_keepAllTurns_b2 (S : gSc)  : Nat → Int32 → gSc → gSc
  | 0, v1, Z => Z
  | n + 1, v1, Z => (if 601 ≤ v1 then pI Z 0 7 601 else (let x22 := v1 + 1; q_X10_keepAllTurns_b2 S n x22 (pI Z 22 (v1.toNatClampNeg) (v1 - 300))))
def q_X10_keepAllTurns (S : gSc)  : gSc := q_X10_keepAllTurns_b2 S 602 0 S
set_option maxHeartbeats 4000000 in
set_option maxRecDepth 100000 in
theorem c_X10_keepAllTurns (l : Launch) (E : gEE) (M : gSm) (S : gSc)   : Met l yX10_keepAllTurns wsX10_keepAllTurns ({ frames := 0, cells := 0, slots := 0, locals := 0 }) (va_Pc [.ref (eC E 0)] (gP E M S)) (va_Qv (fun u : gSc => u = q_X10_keepAllTurns S) (fun u t => gW E M u t.heap) (eA E)) 0 0 (eA E) := by
  refine Met.ofW (cc := cX10_keepAllTurns) (maxL := 2) (ret := none) (by decide) rfl ?_
  intro p e s m args below meth c s₁ B hml hv
  obtain ⟨rfl, hE, hW⟩ := hv
  have hx := B.exec
  have hb := B.bytes
  have hr := B.returns
  have hts := atoms_spec (ws := wsX10_keepAllTurns) B.pre
  have hown : s.vm.findClass RX10 = some m.cls := findClass_of_methodNamed B.named
  have hlocks := B.notSynchronized
  have hinX10 : ∀ w ∈ wsX100, w ∈ wsX10_keepAllTurns := by decide +kernel
  have hS : va_S (eA E) s.heap s.heap [] := va_S.rf
  have hl := lv_entry ([.ref (eC E 0)]) (n := 2) (Nat.le_of_ble_eq_true rfl)
  rw [lg_entry_eq]
  generalize (lg_sl ([.ref (eC E 0)]) ++ List.replicate (2 - (lg_sl ([.ref (eC E 0)])).length) Slot.unset).toArray = ls at hl ⊢
  have hl : lv_has ls 2 [(0, .ref (eC E 0))] := hl
  have hS : ∃ (H : Heap) (locs : List Loc), H = s.heap ∧ locs = [] ∧ gW E M S H ∧ va_S (eA E) s.heap H locs := ⟨_, _, rfl, rfl, hW, hS⟩
  clear hW
  obtain ⟨H, locs, eH, el, hW, hS⟩ := hS
  rw [← eH, ← el]
  clear eH el
  have L2 : ∀ n : Nat, ∀ (v1 : Int32) (Z : gSc) (H : Heap) (locs : List Loc) (ls : Array Slot), (gL 601 n v1) → q_X10_keepAllTurns S = q_X10_keepAllTurns_b2 S n v1 Z → gW E M Z H → va_S (eA E) s.heap H locs → lv_has ls 2 [(0, .ref (eC E 0)), (1, .int (v1))] → W p l e (headSpec wsX10_keepAllTurns ({ frames := 0, cells := 0, slots := 0, locals := 0 })).room s m ([.ref (eC E 0)] : List Value).toArray below meth c H locs 0 0 (MQ below (va_Qv (fun u : gSc => u = q_X10_keepAllTurns S) (fun u t => gW E M u t.heap) (eA E)) ([.ref (eC E 0)] : List Value).toArray s 0 0 (eA E)) (F0 m 2 ls []) := by
    intro n
    induction n with
    | zero =>
      intro v1 Z H locs ls hi hq hW hS hl
      exact hi.z
    | succ n ih =>
      intro v1 Z H locs ls hi hq hW hS hl
      refine lv_iload_n hx hb dX10_keepAllTurns_2 rfl (lv_at hl 1 rfl) ?_
      refine lv_aload_n hx hb dX10_keepAllTurns_3 rfl (lv_at hl 0 rfl) ?_
      refine va_get (D := eD E) (cl := vwCl) (tys := eT E) (ci := 9) (C := RX10) (T := TX10) (N := 12) (v := .ref (eC E 22)) hx hb hts hinX10 hown hE.1 hW.1 11 rfl rfl 6 (by decide) (hts (.fieldLink RX10 50 "DialGarden" "turns" "[I") (by decide +kernel)) (fun _ h9 => h9) rfl dX10_keepAllTurns_4 ?_
      refine va_alen (D := eD E) (cl := vwCl) (tys := eT E) hx hb hE.1 hW.1 33 0 rfl rfl (v := 601) rfl dX10_keepAllTurns_7 ?_
      refine lv_icmp_ge (tgt := 28) hx hb dX10_keepAllTurns_8 (by decide) (fun c8 => ?_) (fun c8 => ?_)
      · refine lv_aload_n hx hb dX10_keepAllTurns_28 rfl (lv_at hl 0 rfl) ?_
        refine lv_aload_n hx hb dX10_keepAllTurns_29 rfl (lv_at hl 0 rfl) ?_
        refine va_get (D := eD E) (cl := vwCl) (tys := eT E) (ci := 9) (C := RX10) (T := TX10) (N := 12) (v := .ref (eC E 22)) hx hb hts hinX10 hown hE.1 hW.1 11 rfl rfl 6 (by decide) (hts (.fieldLink RX10 50 "DialGarden" "turns" "[I") (by decide +kernel)) (fun _ h9 => h9) rfl dX10_keepAllTurns_30 ?_
        refine va_alen (D := eD E) (cl := vwCl) (tys := eT E) hx hb hE.1 hW.1 33 0 rfl rfl (v := 601) rfl dX10_keepAllTurns_33 ?_
        refine va_put (D := eD E) (cl := vwCl) (tys := eT E) (A := eA E) (ci := 9) (C := RX10) (T := TX10) (N := 12) (v := .int (601)) (ty := .int) hx hb hts hinX10 tyX10 tyX10_ok nmX10 hown hE.1 hW.1 hW.2 hS 11 rfl rfl 7 (by decide) (hts (.fieldLink RX10 54 "DialGarden" "turnCount" "I") (by decide +kernel)) (fun _ h9 => h9) rfl (by decide +kernel) rfl rfl (Nat.le_of_ble_eq_true rfl) dX10_keepAllTurns_34 (fun H locs hP hD hS => ?_)
        have hW : gW E M (pI Z 0 7 601) H := gW.of (uC_0_7 E M Z 601) hP hD
        exact W.vret hx hb hr (fun t ht _ => ⟨⟨pI Z 0 7 601, rfl, by rw [hq]; first | (simp only [q_X10_keepAllTurns_b2, if_pos c8]; done) | contradiction, by dsimp only; rw [ht]; exact hW⟩, hS.F ht⟩) hS.2.2 dX10_keepAllTurns_37
      · refine lv_aload_n hx hb dX10_keepAllTurns_11 rfl (lv_at hl 0 rfl) ?_
        refine va_get (D := eD E) (cl := vwCl) (tys := eT E) (ci := 9) (C := RX10) (T := TX10) (N := 12) (v := .ref (eC E 22)) hx hb hts hinX10 hown hE.1 hW.1 11 rfl rfl 6 (by decide) (hts (.fieldLink RX10 50 "DialGarden" "turns" "[I") (by decide +kernel)) (fun _ h9 => h9) rfl dX10_keepAllTurns_12 ?_
        refine lv_iload_n hx hb dX10_keepAllTurns_15 rfl (lv_at hl 1 rfl) ?_
        refine lv_iload_n hx hb dX10_keepAllTurns_16 rfl (lv_at hl 1 rfl) ?_
        refine lv_sipush (v := 300) hx hb dX10_keepAllTurns_17 (by decide) ?_
        refine lv_isub hx hb dX10_keepAllTurns_20 ?_
        refine va_iast (D := eD E) (cl := vwCl) (tys := eT E) (A := eA E) (f := Z.1 22) (x := v1 - 300) hx hb hE.1 hW.1 hW.2 hS 33 0 rfl rfl (vx (hi.lt c8 (by decide)).1 (hi.lt c8 (by decide)).2) dX10_keepAllTurns_21 (fun H locs hP hD hS => ?_)
        have hW : gW E M (pI Z 22 (v1.toNatClampNeg) (v1 - 300)) H := gW.of (tC_I22 E M Z (upd (Z.1 22) (v1.toNatClampNeg) (v1 - 300))) hP hD
        obtain ⟨x22, ex22⟩ : ∃ y : Int32, y = v1 + 1 := ⟨_, rfl⟩
        refine lv_iinc (v := x22) (lv' := [(1, .int (x22)), (0, .ref (eC E 0))]) hx hb dX10_keepAllTurns_22 hl (k := 1) rfl (by rw [ex22]; rfl) (by decide) rfl (fun ls hl => ?_)
        refine lv_goto (tgt := 2) hx hb dX10_keepAllTurns_25 (by decide) ?_
        exact ih _ _ _ _ _ (by exact hi.st c8 (by decide) ex22) (by rw [hq]; subst ex22; first | (simp only [q_X10_keepAllTurns_b2, if_neg c8]; done) | contradiction) hW hS (lv_sub hl [1, 0] rfl)
  refine lv_iconst (v := 0) hx hb dX10_keepAllTurns_0 (by decide) ?_
  refine lv_istore_n (lv' := [(1, .int (0)), (0, .ref (eC E 0))]) hx hb dX10_keepAllTurns_1 rfl hl (by decide) rfl (fun ls hl => ?_)
  exact L2 602 _ _ _ _ _ (by exact gL.i 601) (by first | (simp only [q_X10_keepAllTurns]; done) | contradiction) hW hS (lv_sub hl [1, 0] rfl)
theorem qp_ka_b (S : gSc) : ∀ (n : Nat) (v : Int32) (Z : gSc), (q_X10_keepAllTurns_b2 S n v Z).2 = Z.2
  | 0, _, _ => rfl
  | n + 1, v, Z => by
    rw [q_X10_keepAllTurns_b2]
    dsimp only
    split
    · exact pI_2 _ _ _ _
    · rw [qp_ka_b S n, pI_2]
theorem ka_2 (S : gSc) : (q_X10_keepAllTurns S).2 = S.2 := by
  unfold q_X10_keepAllTurns
  exact qp_ka_b S _ _ _
theorem qp_X10_keepAllTurns (S : gSc) : (q_X10_keepAllTurns S).2.2 = S.2.2 := by rw [ka_2]
