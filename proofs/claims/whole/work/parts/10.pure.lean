def q_J9_floorDiv_7cf53  (p1 : Int32) (p2 : Int32) : Int32 := (let x3 := p1 / p2; (if 0 ≤ (p1 ^^^ p2) then x3 else (if (x3 * p2) = p1 then x3 else x3 - 1)))
set_option maxHeartbeats 4000000 in
set_option maxRecDepth 100000 in
theorem c_J9_floorDiv_7cf53 (l : Launch) (p1 : Int32) (p2 : Int32) (hp2 : ¬ p2 = 0) : Met l yJ9_floorDiv_7cf53 wsJ9_floorDiv_7cf53 ({ frames := 0, cells := 0, slots := 0, locals := 0 }) (va_Pc [.int (p1), .int (p2)] (fun _ => True)) (vp_Si (fun r => r = q_J9_floorDiv_7cf53 p1 p2)) 0 0 (fun _ => False) := by
  refine va_MetF (cc := cJ9_floorDiv_7cf53) (maxL := 3) (ret := (some .int)) (by decide +kernel) rfl ?_
  intro p e s m args below meth c s₁ B hml hv
  obtain ⟨rfl, -⟩ := hv
  have hx := B.exec
  have hb := B.bytes
  have hr := B.returns
  have hts := atoms_spec (ws := wsJ9_floorDiv_7cf53) B.pre
  have hown : s.vm.findClass RJ9 = some m.cls := findClass_of_methodNamed B.named
  have hlocks := B.notSynchronized
  have hl := lv_entry ([.int (p1), .int (p2)]) (n := 3) (Nat.le_of_ble_eq_true rfl)
  rw [lg_entry_eq]
  generalize (lg_sl ([.int (p1), .int (p2)]) ++ List.replicate (3 - (lg_sl ([.int (p1), .int (p2)])).length) Slot.unset).toArray = ls at hl ⊢
  have hl : lv_has ls 3 [(0, .int (p1)), (1, .int (p2))] := hl
  refine lv_iload_n hx hb dJ9_floorDiv_7cf53_0 rfl (lv_at hl 0 rfl) ?_
  refine lv_iload_n hx hb dJ9_floorDiv_7cf53_1 rfl (lv_at hl 1 rfl) ?_
  refine lv_idiv hx hb dJ9_floorDiv_7cf53_2 hp2 ?_
  refine lv_topi (fun x3 ex3 => ?_)
  refine lv_istore_n (lv' := [(2, .int (x3)), (0, .int (p1)), (1, .int (p2))]) hx hb dJ9_floorDiv_7cf53_3 rfl hl (by decide) rfl (fun ls hl => ?_)
  refine lv_iload_n hx hb dJ9_floorDiv_7cf53_4 rfl (lv_at hl 1 rfl) ?_
  refine lv_iload_n hx hb dJ9_floorDiv_7cf53_5 rfl (lv_at hl 2 rfl) ?_
  refine lv_ixor hx hb dJ9_floorDiv_7cf53_6 ?_
  refine lv_if_ge (tgt := 21) hx hb dJ9_floorDiv_7cf53_7 (by decide) (fun c7 => ?_) (fun c7 => ?_)
  · refine lv_iload_n hx hb dJ9_floorDiv_7cf53_21 rfl (lv_at hl 0 rfl) ?_
    exact W.iret (v := x3) hx hb hr (fun t ht _ => ⟨x3, rfl, by subst ex3; first | (simp only [q_J9_floorDiv_7cf53, if_pos c7]; done) | contradiction, ht⟩) (fun _ h => nomatch h) dJ9_floorDiv_7cf53_22
  · refine lv_iload_n hx hb dJ9_floorDiv_7cf53_10 rfl (lv_at hl 0 rfl) ?_
    refine lv_iload_n hx hb dJ9_floorDiv_7cf53_11 rfl (lv_at hl 2 rfl) ?_
    refine lv_imul hx hb dJ9_floorDiv_7cf53_12 ?_
    refine lv_iload_n hx hb dJ9_floorDiv_7cf53_13 rfl (lv_at hl 1 rfl) ?_
    refine lv_icmp_eq (tgt := 21) hx hb dJ9_floorDiv_7cf53_14 (by decide) (fun c14 => ?_) (fun c14 => ?_)
    · refine lv_iload_n hx hb dJ9_floorDiv_7cf53_21 rfl (lv_at hl 0 rfl) ?_
      exact W.iret (v := x3) hx hb hr (fun t ht _ => ⟨x3, rfl, by subst ex3; first | (simp only [q_J9_floorDiv_7cf53, if_neg c7, if_pos c14]; done) | contradiction, ht⟩) (fun _ h => nomatch h) dJ9_floorDiv_7cf53_22
    · refine lv_iload_n hx hb dJ9_floorDiv_7cf53_17 rfl (lv_at hl 0 rfl) ?_
      refine lv_iconst (v := 1) hx hb dJ9_floorDiv_7cf53_18 (by decide) ?_
      refine lv_isub hx hb dJ9_floorDiv_7cf53_19 ?_
      exact W.iret (v := x3 - 1) hx hb hr (fun t ht _ => ⟨x3 - 1, rfl, by subst ex3; first | (simp only [q_J9_floorDiv_7cf53, if_neg c7, if_neg c14]; done) | contradiction, ht⟩) (fun _ h => nomatch h) dJ9_floorDiv_7cf53_20

def q_J9_floorDiv_f86c9  (p1 : Int64) (p2 : Int64) : Int64 := (let x3 := p1 / p2; (if 0 ≤ (p1 ^^^ p2) then x3 else (if (x3 * p2) = p1 then x3 else x3 - 1)))
set_option maxHeartbeats 4000000 in
set_option maxRecDepth 100000 in
theorem c_J9_floorDiv_f86c9 (l : Launch) (p1 : Int64) (p2 : Int64) (hp2 : ¬ p2 = 0) : Met l yJ9_floorDiv_f86c9 wsJ9_floorDiv_f86c9 ({ frames := 0, cells := 0, slots := 0, locals := 0 }) (va_Pc [.long (p1), .long (p2)] (fun _ => True)) (vp_Sl (fun r => r = q_J9_floorDiv_f86c9 p1 p2)) 0 0 (fun _ => False) := by
  refine va_MetF (cc := cJ9_floorDiv_f86c9) (maxL := 6) (ret := (some .long)) (by decide +kernel) rfl ?_
  intro p e s m args below meth c s₁ B hml hv
  obtain ⟨rfl, -⟩ := hv
  have hx := B.exec
  have hb := B.bytes
  have hr := B.returns
  have hts := atoms_spec (ws := wsJ9_floorDiv_f86c9) B.pre
  have hown : s.vm.findClass RJ9 = some m.cls := findClass_of_methodNamed B.named
  have hlocks := B.notSynchronized
  have hl := lv_entry ([.long (p1), .long (p2)]) (n := 6) (Nat.le_of_ble_eq_true rfl)
  rw [lg_entry_eq]
  generalize (lg_sl ([.long (p1), .long (p2)]) ++ List.replicate (6 - (lg_sl ([.long (p1), .long (p2)])).length) Slot.unset).toArray = ls at hl ⊢
  have hl : lv_has ls 6 [(0, .long (p1)), (2, .long (p2))] := hl
  refine lv_lload_n hx hb dJ9_floorDiv_f86c9_0 rfl (lv_at hl 0 rfl) ?_
  refine lv_lload_n hx hb dJ9_floorDiv_f86c9_1 rfl (lv_at hl 1 rfl) ?_
  refine lv_ldiv hx hb dJ9_floorDiv_f86c9_2 hp2 ?_
  refine lv_topl (fun x3 ex3 => ?_)
  refine lv_lstore (lv' := [(4, .long (x3)), (0, .long (p1)), (2, .long (p2))]) hx hb dJ9_floorDiv_f86c9_3 hl (by decide) rfl (fun ls hl => ?_)
  refine lv_lload_n hx hb dJ9_floorDiv_f86c9_5 rfl (lv_at hl 1 rfl) ?_
  refine lv_lload_n hx hb dJ9_floorDiv_f86c9_6 rfl (lv_at hl 2 rfl) ?_
  refine lv_lxor hx hb dJ9_floorDiv_f86c9_7 ?_
  refine lv_lconst (v := 0) hx hb dJ9_floorDiv_f86c9_8 (by decide) ?_
  refine k_lge (tgt := 27) hx hb dJ9_floorDiv_f86c9_9 dJ9_floorDiv_f86c9_10 (by decide) (fun c9 => ?_) (fun c9 => ?_)
  · refine lv_lload hx hb dJ9_floorDiv_f86c9_27 (lv_at hl 0 rfl) ?_
    exact W.lret (v := x3) hx hb hr (fun t ht _ => ⟨x3, rfl, by subst ex3; first | (simp only [q_J9_floorDiv_f86c9, if_pos c9]; done) | contradiction, ht⟩) (fun _ h => nomatch h) dJ9_floorDiv_f86c9_29
  · refine lv_lload hx hb dJ9_floorDiv_f86c9_13 (lv_at hl 0 rfl) ?_
    refine lv_lload_n hx hb dJ9_floorDiv_f86c9_15 rfl (lv_at hl 2 rfl) ?_
    refine lv_lmul hx hb dJ9_floorDiv_f86c9_16 ?_
    refine lv_lload_n hx hb dJ9_floorDiv_f86c9_17 rfl (lv_at hl 1 rfl) ?_
    refine k_leq (tgt := 27) hx hb dJ9_floorDiv_f86c9_18 dJ9_floorDiv_f86c9_19 (by decide) (fun c18 => ?_) (fun c18 => ?_)
    · refine lv_lload hx hb dJ9_floorDiv_f86c9_27 (lv_at hl 0 rfl) ?_
      exact W.lret (v := x3) hx hb hr (fun t ht _ => ⟨x3, rfl, by subst ex3; first | (simp only [q_J9_floorDiv_f86c9, if_neg c9, if_pos c18]; done) | contradiction, ht⟩) (fun _ h => nomatch h) dJ9_floorDiv_f86c9_29
    · refine lv_lload hx hb dJ9_floorDiv_f86c9_22 (lv_at hl 0 rfl) ?_
      refine lv_lconst (v := 1) hx hb dJ9_floorDiv_f86c9_24 (by decide) ?_
      refine lv_lsub hx hb dJ9_floorDiv_f86c9_25 ?_
      exact W.lret (v := x3 - 1) hx hb hr (fun t ht _ => ⟨x3 - 1, rfl, by subst ex3; first | (simp only [q_J9_floorDiv_f86c9, if_neg c9, if_neg c18]; done) | contradiction, ht⟩) (fun _ h => nomatch h) dJ9_floorDiv_f86c9_26

def q_J9_floorMod_7cf53  (p1 : Int32) (p2 : Int32) : Int32 := (let x3 := p1 - p1 / p2 * p2; (if 0 ≤ (p1 ^^^ p2) then x3 else (if x3 = 0 then x3 else x3 + p2)))
set_option maxHeartbeats 4000000 in
set_option maxRecDepth 100000 in
theorem c_J9_floorMod_7cf53 (l : Launch) (p1 : Int32) (p2 : Int32) (hp2 : ¬ p2 = 0) : Met l yJ9_floorMod_7cf53 wsJ9_floorMod_7cf53 ({ frames := 0, cells := 0, slots := 0, locals := 0 }) (va_Pc [.int (p1), .int (p2)] (fun _ => True)) (vp_Si (fun r => r = q_J9_floorMod_7cf53 p1 p2)) 0 0 (fun _ => False) := by
  refine va_MetF (cc := cJ9_floorMod_7cf53) (maxL := 3) (ret := (some .int)) (by decide +kernel) rfl ?_
  intro p e s m args below meth c s₁ B hml hv
  obtain ⟨rfl, -⟩ := hv
  have hx := B.exec
  have hb := B.bytes
  have hr := B.returns
  have hts := atoms_spec (ws := wsJ9_floorMod_7cf53) B.pre
  have hown : s.vm.findClass RJ9 = some m.cls := findClass_of_methodNamed B.named
  have hlocks := B.notSynchronized
  have hl := lv_entry ([.int (p1), .int (p2)]) (n := 3) (Nat.le_of_ble_eq_true rfl)
  rw [lg_entry_eq]
  generalize (lg_sl ([.int (p1), .int (p2)]) ++ List.replicate (3 - (lg_sl ([.int (p1), .int (p2)])).length) Slot.unset).toArray = ls at hl ⊢
  have hl : lv_has ls 3 [(0, .int (p1)), (1, .int (p2))] := hl
  refine lv_iload_n hx hb dJ9_floorMod_7cf53_0 rfl (lv_at hl 0 rfl) ?_
  refine lv_iload_n hx hb dJ9_floorMod_7cf53_1 rfl (lv_at hl 1 rfl) ?_
  refine lv_irem hx hb dJ9_floorMod_7cf53_2 hp2 ?_
  refine lv_topi (fun x3 ex3 => ?_)
  refine lv_istore_n (lv' := [(2, .int (x3)), (0, .int (p1)), (1, .int (p2))]) hx hb dJ9_floorMod_7cf53_3 rfl hl (by decide) rfl (fun ls hl => ?_)
  refine lv_iload_n hx hb dJ9_floorMod_7cf53_4 rfl (lv_at hl 1 rfl) ?_
  refine lv_iload_n hx hb dJ9_floorMod_7cf53_5 rfl (lv_at hl 2 rfl) ?_
  refine lv_ixor hx hb dJ9_floorMod_7cf53_6 ?_
  refine lv_if_ge (tgt := 18) hx hb dJ9_floorMod_7cf53_7 (by decide) (fun c7 => ?_) (fun c7 => ?_)
  · refine lv_iload_n hx hb dJ9_floorMod_7cf53_18 rfl (lv_at hl 0 rfl) ?_
    exact W.iret (v := x3) hx hb hr (fun t ht _ => ⟨x3, rfl, by subst ex3; first | (simp only [q_J9_floorMod_7cf53, if_pos c7]; done) | contradiction, ht⟩) (fun _ h => nomatch h) dJ9_floorMod_7cf53_19
  · refine lv_iload_n hx hb dJ9_floorMod_7cf53_10 rfl (lv_at hl 0 rfl) ?_
    refine lv_if_eq (tgt := 18) hx hb dJ9_floorMod_7cf53_11 (by decide) (fun c11 => ?_) (fun c11 => ?_)
    · refine lv_iload_n hx hb dJ9_floorMod_7cf53_18 rfl (lv_at hl 0 rfl) ?_
      exact W.iret (v := x3) hx hb hr (fun t ht _ => ⟨x3, rfl, by subst ex3; first | (simp only [q_J9_floorMod_7cf53, if_neg c7, if_pos c11]; done) | contradiction, ht⟩) (fun _ h => nomatch h) dJ9_floorMod_7cf53_19
    · refine lv_iload_n hx hb dJ9_floorMod_7cf53_14 rfl (lv_at hl 0 rfl) ?_
      refine lv_iload_n hx hb dJ9_floorMod_7cf53_15 rfl (lv_at hl 2 rfl) ?_
      refine lv_iadd hx hb dJ9_floorMod_7cf53_16 ?_
      exact W.iret (v := x3 + p2) hx hb hr (fun t ht _ => ⟨x3 + p2, rfl, by subst ex3; first | (simp only [q_J9_floorMod_7cf53, if_neg c7, if_neg c11]; done) | contradiction, ht⟩) (fun _ h => nomatch h) dJ9_floorMod_7cf53_17

def q_J6_bitCount_0f7a4  (p1 : Int32) : Int32 := (let x9 := p1 - (((p1.toUInt32 >>> ((1 : Int32).toUInt32 &&& Int32.toUInt32 31)).toInt32) &&& 1431655765); (let x23 := (x9 &&& 858993459) + (((x9.toUInt32 >>> ((2 : Int32).toUInt32 &&& Int32.toUInt32 31)).toInt32) &&& 858993459); (let x33 := (x23 + ((x23.toUInt32 >>> ((4 : Int32).toUInt32 &&& Int32.toUInt32 31)).toInt32)) &&& 252645135; (let x40 := x33 + ((x33.toUInt32 >>> ((8 : Int32).toUInt32 &&& Int32.toUInt32 31)).toInt32); (let x47 := x40 + ((x40.toUInt32 >>> ((16 : Int32).toUInt32 &&& Int32.toUInt32 31)).toInt32); x47 &&& 63)))))
set_option maxHeartbeats 4000000 in
set_option maxRecDepth 100000 in
theorem c_J6_bitCount_0f7a4 (l : Launch) (p1 : Int32)  : Met l yJ6_bitCount_0f7a4 wsJ6_bitCount_0f7a4 ({ frames := 0, cells := 0, slots := 0, locals := 0 }) (va_Pc [.int (p1)] (fun _ => True)) (vp_Si (fun r => r = q_J6_bitCount_0f7a4 p1)) 0 0 (fun _ => False) := by
  refine va_MetF (cc := cJ6_bitCount_0f7a4) (maxL := 1) (ret := (some .int)) (by decide +kernel) rfl ?_
  intro p e s m args below meth c s₁ B hml hv
  obtain ⟨rfl, -⟩ := hv
  have hx := B.exec
  have hb := B.bytes
  have hr := B.returns
  have hts := atoms_spec (ws := wsJ6_bitCount_0f7a4) B.pre
  have hown : s.vm.findClass RJ6 = some m.cls := findClass_of_methodNamed B.named
  have hlocks := B.notSynchronized
  have hl := lv_entry ([.int (p1)]) (n := 1) (Nat.le_of_ble_eq_true rfl)
  rw [lg_entry_eq]
  generalize (lg_sl ([.int (p1)]) ++ List.replicate (1 - (lg_sl ([.int (p1)])).length) Slot.unset).toArray = ls at hl ⊢
  have hl : lv_has ls 1 [(0, .int (p1))] := hl
  refine lv_iload_n hx hb dJ6_bitCount_0f7a4_0 rfl (lv_at hl 0 rfl) ?_
  refine lv_iload_n hx hb dJ6_bitCount_0f7a4_1 rfl (lv_at hl 0 rfl) ?_
  refine lv_iconst (v := 1) hx hb dJ6_bitCount_0f7a4_2 (by decide) ?_
  refine lv_iushr (v := (p1.toUInt32 >>> ((1 : Int32).toUInt32 &&& Int32.toUInt32 31)).toInt32) hx hb dJ6_bitCount_0f7a4_3 rfl ?_
  refine lv_ldcw hx hb (v := 1431655765) hown (hts (.constant RJ6 265 (1431655765)) (by decide +kernel)) dJ6_bitCount_0f7a4_4 ?_
  refine lv_iand hx hb dJ6_bitCount_0f7a4_7 ?_
  refine lv_isub hx hb dJ6_bitCount_0f7a4_8 ?_
  refine lv_topi (fun x9 ex9 => ?_)
  refine lv_istore_n (lv' := [(0, .int (x9))]) hx hb dJ6_bitCount_0f7a4_9 rfl hl (by decide) rfl (fun ls hl => ?_)
  refine lv_iload_n hx hb dJ6_bitCount_0f7a4_10 rfl (lv_at hl 0 rfl) ?_
  refine lv_ldcw hx hb (v := 858993459) hown (hts (.constant RJ6 266 (858993459)) (by decide +kernel)) dJ6_bitCount_0f7a4_11 ?_
  refine lv_iand hx hb dJ6_bitCount_0f7a4_14 ?_
  refine lv_iload_n hx hb dJ6_bitCount_0f7a4_15 rfl (lv_at hl 0 rfl) ?_
  refine lv_iconst (v := 2) hx hb dJ6_bitCount_0f7a4_16 (by decide) ?_
  refine lv_iushr (v := (x9.toUInt32 >>> ((2 : Int32).toUInt32 &&& Int32.toUInt32 31)).toInt32) hx hb dJ6_bitCount_0f7a4_17 rfl ?_
  refine lv_ldcw hx hb (v := 858993459) hown (hts (.constant RJ6 266 (858993459)) (by decide +kernel)) dJ6_bitCount_0f7a4_18 ?_
  refine lv_iand hx hb dJ6_bitCount_0f7a4_21 ?_
  refine lv_iadd hx hb dJ6_bitCount_0f7a4_22 ?_
  refine lv_topi (fun x23 ex23 => ?_)
  refine lv_istore_n (lv' := [(0, .int (x23))]) hx hb dJ6_bitCount_0f7a4_23 rfl hl (by decide) rfl (fun ls hl => ?_)
  refine lv_iload_n hx hb dJ6_bitCount_0f7a4_24 rfl (lv_at hl 0 rfl) ?_
  refine lv_iload_n hx hb dJ6_bitCount_0f7a4_25 rfl (lv_at hl 0 rfl) ?_
  refine lv_iconst (v := 4) hx hb dJ6_bitCount_0f7a4_26 (by decide) ?_
  refine lv_iushr (v := (x23.toUInt32 >>> ((4 : Int32).toUInt32 &&& Int32.toUInt32 31)).toInt32) hx hb dJ6_bitCount_0f7a4_27 rfl ?_
  refine lv_iadd hx hb dJ6_bitCount_0f7a4_28 ?_
  refine lv_ldcw hx hb (v := 252645135) hown (hts (.constant RJ6 267 (252645135)) (by decide +kernel)) dJ6_bitCount_0f7a4_29 ?_
  refine lv_iand hx hb dJ6_bitCount_0f7a4_32 ?_
  refine lv_topi (fun x33 ex33 => ?_)
  refine lv_istore_n (lv' := [(0, .int (x33))]) hx hb dJ6_bitCount_0f7a4_33 rfl hl (by decide) rfl (fun ls hl => ?_)
  refine lv_iload_n hx hb dJ6_bitCount_0f7a4_34 rfl (lv_at hl 0 rfl) ?_
  refine lv_iload_n hx hb dJ6_bitCount_0f7a4_35 rfl (lv_at hl 0 rfl) ?_
  refine lv_bipush (v := 8) hx hb dJ6_bitCount_0f7a4_36 (by decide) ?_
  refine lv_iushr (v := (x33.toUInt32 >>> ((8 : Int32).toUInt32 &&& Int32.toUInt32 31)).toInt32) hx hb dJ6_bitCount_0f7a4_38 rfl ?_
  refine lv_iadd hx hb dJ6_bitCount_0f7a4_39 ?_
  refine lv_topi (fun x40 ex40 => ?_)
  refine lv_istore_n (lv' := [(0, .int (x40))]) hx hb dJ6_bitCount_0f7a4_40 rfl hl (by decide) rfl (fun ls hl => ?_)
  refine lv_iload_n hx hb dJ6_bitCount_0f7a4_41 rfl (lv_at hl 0 rfl) ?_
  refine lv_iload_n hx hb dJ6_bitCount_0f7a4_42 rfl (lv_at hl 0 rfl) ?_
  refine lv_bipush (v := 16) hx hb dJ6_bitCount_0f7a4_43 (by decide) ?_
  refine lv_iushr (v := (x40.toUInt32 >>> ((16 : Int32).toUInt32 &&& Int32.toUInt32 31)).toInt32) hx hb dJ6_bitCount_0f7a4_45 rfl ?_
  refine lv_iadd hx hb dJ6_bitCount_0f7a4_46 ?_
  refine lv_topi (fun x47 ex47 => ?_)
  refine lv_istore_n (lv' := [(0, .int (x47))]) hx hb dJ6_bitCount_0f7a4_47 rfl hl (by decide) rfl (fun ls hl => ?_)
  refine lv_iload_n hx hb dJ6_bitCount_0f7a4_48 rfl (lv_at hl 0 rfl) ?_
  refine lv_bipush (v := 63) hx hb dJ6_bitCount_0f7a4_49 (by decide) ?_
  refine lv_iand hx hb dJ6_bitCount_0f7a4_51 ?_
  exact W.iret (v := x47 &&& 63) hx hb hr (fun t ht _ => ⟨x47 &&& 63, rfl, by subst ex47; subst ex40; subst ex33; subst ex23; subst ex9; first | (simp only [q_J6_bitCount_0f7a4]; done) | contradiction, ht⟩) (fun _ h => nomatch h) dJ6_bitCount_0f7a4_52

def q_X10_within  (p1 : Int64) (p2 : Int64) (p3 : Int64) : Int32 := (if p1 < p2 then 0 else (if p3 < p1 then 0 else 1))
set_option maxHeartbeats 4000000 in
set_option maxRecDepth 100000 in
theorem c_X10_within (l : Launch) (p1 : Int64) (p2 : Int64) (p3 : Int64)  : Met l yX10_within wsX10_within ({ frames := 0, cells := 0, slots := 0, locals := 0 }) (va_Pc [.long (p1), .long (p2), .long (p3)] (fun _ => True)) (vp_Si (fun r => r = q_X10_within p1 p2 p3)) 0 0 (fun _ => False) := by
  refine Met.ofW (cc := cX10_within) (maxL := 6) (ret := (some .boolean)) (by decide) rfl ?_
  intro p e s m args below meth c s₁ B hml hv
  obtain ⟨rfl, -⟩ := hv
  have hx := B.exec
  have hb := B.bytes
  have hr := B.returns
  have hts := atoms_spec (ws := wsX10_within) B.pre
  have hown : s.vm.findClass RX10 = some m.cls := findClass_of_methodNamed B.named
  have hlocks := B.notSynchronized
  have hl := lv_entry ([.long (p1), .long (p2), .long (p3)]) (n := 6) (Nat.le_of_ble_eq_true rfl)
  rw [lg_entry_eq]
  generalize (lg_sl ([.long (p1), .long (p2), .long (p3)]) ++ List.replicate (6 - (lg_sl ([.long (p1), .long (p2), .long (p3)])).length) Slot.unset).toArray = ls at hl ⊢
  have hl : lv_has ls 6 [(0, .long (p1)), (2, .long (p2)), (4, .long (p3))] := hl
  refine lv_lload_n hx hb dX10_within_0 rfl (lv_at hl 0 rfl) ?_
  refine lv_lload_n hx hb dX10_within_1 rfl (lv_at hl 1 rfl) ?_
  refine k_llt (tgt := 17) hx hb dX10_within_2 dX10_within_3 (by decide) (fun c2 => ?_) (fun c2 => ?_)
  · refine lv_iconst (v := 0) hx hb dX10_within_17 (by decide) ?_
    exact W.zret (v := 0) hx hb hr rfl (fun t ht _ => ⟨0, rfl, by first | (simp only [q_X10_within, if_pos c2]; done) | contradiction, ht⟩) (fun _ h => nomatch h) dX10_within_18
  · refine lv_lload_n hx hb dX10_within_6 rfl (lv_at hl 0 rfl) ?_
    refine lv_lload hx hb dX10_within_7 (lv_at hl 2 rfl) ?_
    refine k_lgt (tgt := 17) hx hb dX10_within_9 dX10_within_10 (by decide) (fun c9 => ?_) (fun c9 => ?_)
    · refine lv_iconst (v := 0) hx hb dX10_within_17 (by decide) ?_
      exact W.zret (v := 0) hx hb hr rfl (fun t ht _ => ⟨0, rfl, by first | (simp only [q_X10_within, if_neg c2, if_pos c9]; done) | contradiction, ht⟩) (fun _ h => nomatch h) dX10_within_18
    · refine lv_iconst (v := 1) hx hb dX10_within_13 (by decide) ?_
      refine lv_goto (tgt := 18) hx hb dX10_within_14 (by decide) ?_
      exact W.zret (v := 1) hx hb hr rfl (fun t ht _ => ⟨1, rfl, by first | (simp only [q_X10_within, if_neg c2, if_neg c9]; done) | contradiction, ht⟩) (fun _ h => nomatch h) dX10_within_18
theorem qb_X10_within  (p1 : Int64) (p2 : Int64) (p3 : Int64) : q_X10_within p1 p2 p3 = 0 ∨ q_X10_within p1 p2 p3 = 1 := by
  unfold q_X10_within
  repeat' (first | exact Or.inl rfl | exact Or.inr rfl | split | (simp only []; split))

def q_X10_isPlace  (p1 : Int32) : Int32 := (let r6 := q_X10_within (p1.toInt64) 0 39; r6)
set_option maxHeartbeats 4000000 in
set_option maxRecDepth 100000 in
theorem c_X10_isPlace (l : Launch) (p1 : Int32)  : Met l yX10_isPlace wsX10_isPlace ({ frames := 1, cells := 0, slots := 0, locals := 25 }) (va_Pc [.int (p1)] (fun _ => True)) (vp_Si (fun r => r = q_X10_isPlace p1)) 0 0 (fun _ => False) := by
  refine Met.ofW (cc := cX10_isPlace) (maxL := 1) (ret := (some .boolean)) (by decide) rfl ?_
  intro p e s m args below meth c s₁ B hml hv
  obtain ⟨rfl, -⟩ := hv
  have hx := B.exec
  have hb := B.bytes
  have hr := B.returns
  have hts := atoms_spec (ws := wsX10_isPlace) B.pre
  have hown : s.vm.findClass RX10 = some m.cls := findClass_of_methodNamed B.named
  have hlocks := B.notSynchronized
  have hl := lv_entry ([.int (p1)]) (n := 1) (Nat.le_of_ble_eq_true rfl)
  rw [lg_entry_eq]
  generalize (lg_sl ([.int (p1)]) ++ List.replicate (1 - (lg_sl ([.int (p1)])).length) Slot.unset).toArray = ls at hl ⊢
  have hl : lv_has ls 1 [(0, .int (p1))] := hl
  refine lv_iload_n hx hb dX10_isPlace_0 rfl (lv_at hl 0 rfl) ?_
  refine lv_i2l (v := p1.toInt64) hx hb dX10_isPlace_1 rfl ?_
  refine lv_lconst (v := 0) hx hb dX10_isPlace_2 (by decide) ?_
  refine lv_ldc2 hx hb (v := 39) hown (hts (.constantLong RX10 312 (39)) (by decide +kernel)) dX10_isPlace_3 ?_
  refine k_Si (va_runS (As := [.long (p1.toInt64), .long (0), .long (39)]) (rest := []) ⟨hx, hb, hml, hown, hts⟩ (c_X10_within l (p1.toInt64) 0 39) (va_cwS 3 hts gX10_isPlace_X10_within rfl rfl rfl (by decide +kernel) ⟨Nat.le_of_ble_eq_true rfl, Nat.le_of_ble_eq_true rfl⟩) gP0 rfl rfl hl.1 rfl (lv_room (Nat.le_of_ble_eq_true rfl)) dX10_isPlace_6 ⟨Nat.le_of_ble_eq_true rfl, Nat.le_of_ble_eq_true rfl⟩) (fun r6 er6 => ?_)
  exact W.zret (v := r6) hx hb hr (gB (by rw [er6]; exact qb_X10_within _ _ _)) (fun t ht _ => ⟨r6, rfl, by subst er6; first | (simp only [q_X10_isPlace]; done) | contradiction, ht⟩) (fun _ h => nomatch h) dX10_isPlace_9
theorem qb_X10_isPlace  (p1 : Int32) : q_X10_isPlace p1 = 0 ∨ q_X10_isPlace p1 = 1 := by
  unfold q_X10_isPlace
  repeat' (first | exact Or.inl rfl | exact Or.inr rfl | exact qb_X10_within _ _ _ | split | (simp only []; split))

def q_X10_isKind  (p1 : Int32) : Int32 := (let r6 := q_X10_within (p1.toInt64) 0 4; r6)
set_option maxHeartbeats 4000000 in
set_option maxRecDepth 100000 in
theorem c_X10_isKind (l : Launch) (p1 : Int32)  : Met l yX10_isKind wsX10_isKind ({ frames := 1, cells := 0, slots := 0, locals := 25 }) (va_Pc [.int (p1)] (fun _ => True)) (vp_Si (fun r => r = q_X10_isKind p1)) 0 0 (fun _ => False) := by
  refine Met.ofW (cc := cX10_isKind) (maxL := 1) (ret := (some .boolean)) (by decide) rfl ?_
  intro p e s m args below meth c s₁ B hml hv
  obtain ⟨rfl, -⟩ := hv
  have hx := B.exec
  have hb := B.bytes
  have hr := B.returns
  have hts := atoms_spec (ws := wsX10_isKind) B.pre
  have hown : s.vm.findClass RX10 = some m.cls := findClass_of_methodNamed B.named
  have hlocks := B.notSynchronized
  have hl := lv_entry ([.int (p1)]) (n := 1) (Nat.le_of_ble_eq_true rfl)
  rw [lg_entry_eq]
  generalize (lg_sl ([.int (p1)]) ++ List.replicate (1 - (lg_sl ([.int (p1)])).length) Slot.unset).toArray = ls at hl ⊢
  have hl : lv_has ls 1 [(0, .int (p1))] := hl
  refine lv_iload_n hx hb dX10_isKind_0 rfl (lv_at hl 0 rfl) ?_
  refine lv_i2l (v := p1.toInt64) hx hb dX10_isKind_1 rfl ?_
  refine lv_lconst (v := 0) hx hb dX10_isKind_2 (by decide) ?_
  refine lv_ldc2 hx hb (v := 4) hown (hts (.constantLong RX10 314 (4)) (by decide +kernel)) dX10_isKind_3 ?_
  refine k_Si (va_runS (As := [.long (p1.toInt64), .long (0), .long (4)]) (rest := []) ⟨hx, hb, hml, hown, hts⟩ (c_X10_within l (p1.toInt64) 0 4) (va_cwS 3 hts gX10_isKind_X10_within rfl rfl rfl (by decide +kernel) ⟨Nat.le_of_ble_eq_true rfl, Nat.le_of_ble_eq_true rfl⟩) gP0 rfl rfl hl.1 rfl (lv_room (Nat.le_of_ble_eq_true rfl)) dX10_isKind_6 ⟨Nat.le_of_ble_eq_true rfl, Nat.le_of_ble_eq_true rfl⟩) (fun r6 er6 => ?_)
  exact W.zret (v := r6) hx hb hr (gB (by rw [er6]; exact qb_X10_within _ _ _)) (fun t ht _ => ⟨r6, rfl, by subst er6; first | (simp only [q_X10_isKind]; done) | contradiction, ht⟩) (fun _ h => nomatch h) dX10_isKind_9
theorem qb_X10_isKind  (p1 : Int32) : q_X10_isKind p1 = 0 ∨ q_X10_isKind p1 = 1 := by
  unfold q_X10_isKind
  repeat' (first | exact Or.inl rfl | exact Or.inr rfl | exact qb_X10_within _ _ _ | split | (simp only []; split))

def q_X10_isSpot  (p1 : Int32) (p2 : Int32) : Int32 := (let r8 := q_X10_within (p1.toInt64) (-10000) 10000; (if r8 = 0 then 0 else (let r22 := q_X10_within (p2.toInt64) (-10000) 10000; (if r22 = 0 then 0 else 1))))
set_option maxHeartbeats 4000000 in
set_option maxRecDepth 100000 in
theorem c_X10_isSpot (l : Launch) (p1 : Int32) (p2 : Int32)  : Met l yX10_isSpot wsX10_isSpot ({ frames := 1, cells := 0, slots := 0, locals := 25 }) (va_Pc [.int (p1), .int (p2)] (fun _ => True)) (vp_Si (fun r => r = q_X10_isSpot p1 p2)) 0 0 (fun _ => False) := by
  refine Met.ofW (cc := cX10_isSpot) (maxL := 2) (ret := (some .boolean)) (by decide) rfl ?_
  intro p e s m args below meth c s₁ B hml hv
  obtain ⟨rfl, -⟩ := hv
  have hx := B.exec
  have hb := B.bytes
  have hr := B.returns
  have hts := atoms_spec (ws := wsX10_isSpot) B.pre
  have hown : s.vm.findClass RX10 = some m.cls := findClass_of_methodNamed B.named
  have hlocks := B.notSynchronized
  have hl := lv_entry ([.int (p1), .int (p2)]) (n := 2) (Nat.le_of_ble_eq_true rfl)
  rw [lg_entry_eq]
  generalize (lg_sl ([.int (p1), .int (p2)]) ++ List.replicate (2 - (lg_sl ([.int (p1), .int (p2)])).length) Slot.unset).toArray = ls at hl ⊢
  have hl : lv_has ls 2 [(0, .int (p1)), (1, .int (p2))] := hl
  refine lv_iload_n hx hb dX10_isSpot_0 rfl (lv_at hl 0 rfl) ?_
  refine lv_i2l (v := p1.toInt64) hx hb dX10_isSpot_1 rfl ?_
  refine lv_ldc2 hx hb (v := (-10000)) hown (hts (.constantLong RX10 316 (-10000)) (by decide +kernel)) dX10_isSpot_2 ?_
  refine lv_ldc2 hx hb (v := 10000) hown (hts (.constantLong RX10 165 (10000)) (by decide +kernel)) dX10_isSpot_5 ?_
  refine k_Si (va_runS (As := [.long (p1.toInt64), .long ((-10000)), .long (10000)]) (rest := []) ⟨hx, hb, hml, hown, hts⟩ (c_X10_within l (p1.toInt64) (-10000) 10000) (va_cwS 3 hts gX10_isSpot_X10_within rfl rfl rfl (by decide +kernel) ⟨Nat.le_of_ble_eq_true rfl, Nat.le_of_ble_eq_true rfl⟩) gP0 rfl rfl hl.1 rfl (lv_room (Nat.le_of_ble_eq_true rfl)) dX10_isSpot_8 ⟨Nat.le_of_ble_eq_true rfl, Nat.le_of_ble_eq_true rfl⟩) (fun r8 er8 => ?_)
  refine lv_if_eq (tgt := 32) hx hb dX10_isSpot_11 (by decide) (fun c11 => ?_) (fun c11 => ?_)
  · refine lv_iconst (v := 0) hx hb dX10_isSpot_32 (by decide) ?_
    exact W.zret (v := 0) hx hb hr rfl (fun t ht _ => ⟨0, rfl, by subst er8; first | (simp only [q_X10_isSpot, if_pos c11]; done) | contradiction, ht⟩) (fun _ h => nomatch h) dX10_isSpot_33
  · refine lv_iload_n hx hb dX10_isSpot_14 rfl (lv_at hl 1 rfl) ?_
    refine lv_i2l (v := p2.toInt64) hx hb dX10_isSpot_15 rfl ?_
    refine lv_ldc2 hx hb (v := (-10000)) hown (hts (.constantLong RX10 316 (-10000)) (by decide +kernel)) dX10_isSpot_16 ?_
    refine lv_ldc2 hx hb (v := 10000) hown (hts (.constantLong RX10 165 (10000)) (by decide +kernel)) dX10_isSpot_19 ?_
    refine k_Si (va_runS (As := [.long (p2.toInt64), .long ((-10000)), .long (10000)]) (rest := []) ⟨hx, hb, hml, hown, hts⟩ (c_X10_within l (p2.toInt64) (-10000) 10000) (va_cwS 3 hts gX10_isSpot_X10_within rfl rfl rfl (by decide +kernel) ⟨Nat.le_of_ble_eq_true rfl, Nat.le_of_ble_eq_true rfl⟩) gP0 rfl rfl hl.1 rfl (lv_room (Nat.le_of_ble_eq_true rfl)) dX10_isSpot_22 ⟨Nat.le_of_ble_eq_true rfl, Nat.le_of_ble_eq_true rfl⟩) (fun r22 er22 => ?_)
    refine lv_if_eq (tgt := 32) hx hb dX10_isSpot_25 (by decide) (fun c25 => ?_) (fun c25 => ?_)
    · refine lv_iconst (v := 0) hx hb dX10_isSpot_32 (by decide) ?_
      exact W.zret (v := 0) hx hb hr rfl (fun t ht _ => ⟨0, rfl, by subst er22; subst er8; first | (simp only [q_X10_isSpot, if_neg c11, if_pos c25]; done) | contradiction, ht⟩) (fun _ h => nomatch h) dX10_isSpot_33
    · refine lv_iconst (v := 1) hx hb dX10_isSpot_28 (by decide) ?_
      refine lv_goto (tgt := 33) hx hb dX10_isSpot_29 (by decide) ?_
      exact W.zret (v := 1) hx hb hr rfl (fun t ht _ => ⟨1, rfl, by subst er22; subst er8; first | (simp only [q_X10_isSpot, if_neg c11, if_neg c25]; done) | contradiction, ht⟩) (fun _ h => nomatch h) dX10_isSpot_33
theorem qb_X10_isSpot  (p1 : Int32) (p2 : Int32) : q_X10_isSpot p1 p2 = 0 ∨ q_X10_isSpot p1 p2 = 1 := by
  unfold q_X10_isSpot
  repeat' (first | exact Or.inl rfl | exact Or.inr rfl | exact qb_X10_within _ _ _ | split | (simp only []; split))

def q_X10_isHour  (p1 : Int32) : Int32 := (let r6 := q_X10_within (p1.toInt64) 0 23; r6)
set_option maxHeartbeats 4000000 in
set_option maxRecDepth 100000 in
theorem c_X10_isHour (l : Launch) (p1 : Int32)  : Met l yX10_isHour wsX10_isHour ({ frames := 1, cells := 0, slots := 0, locals := 25 }) (va_Pc [.int (p1)] (fun _ => True)) (vp_Si (fun r => r = q_X10_isHour p1)) 0 0 (fun _ => False) := by
  refine Met.ofW (cc := cX10_isHour) (maxL := 1) (ret := (some .boolean)) (by decide) rfl ?_
  intro p e s m args below meth c s₁ B hml hv
  obtain ⟨rfl, -⟩ := hv
  have hx := B.exec
  have hb := B.bytes
  have hr := B.returns
  have hts := atoms_spec (ws := wsX10_isHour) B.pre
  have hown : s.vm.findClass RX10 = some m.cls := findClass_of_methodNamed B.named
  have hlocks := B.notSynchronized
  have hl := lv_entry ([.int (p1)]) (n := 1) (Nat.le_of_ble_eq_true rfl)
  rw [lg_entry_eq]
  generalize (lg_sl ([.int (p1)]) ++ List.replicate (1 - (lg_sl ([.int (p1)])).length) Slot.unset).toArray = ls at hl ⊢
  have hl : lv_has ls 1 [(0, .int (p1))] := hl
  refine lv_iload_n hx hb dX10_isHour_0 rfl (lv_at hl 0 rfl) ?_
  refine lv_i2l (v := p1.toInt64) hx hb dX10_isHour_1 rfl ?_
  refine lv_lconst (v := 0) hx hb dX10_isHour_2 (by decide) ?_
  refine lv_ldc2 hx hb (v := 23) hown (hts (.constantLong RX10 318 (23)) (by decide +kernel)) dX10_isHour_3 ?_
  refine k_Si (va_runS (As := [.long (p1.toInt64), .long (0), .long (23)]) (rest := []) ⟨hx, hb, hml, hown, hts⟩ (c_X10_within l (p1.toInt64) 0 23) (va_cwS 3 hts gX10_isHour_X10_within rfl rfl rfl (by decide +kernel) ⟨Nat.le_of_ble_eq_true rfl, Nat.le_of_ble_eq_true rfl⟩) gP0 rfl rfl hl.1 rfl (lv_room (Nat.le_of_ble_eq_true rfl)) dX10_isHour_6 ⟨Nat.le_of_ble_eq_true rfl, Nat.le_of_ble_eq_true rfl⟩) (fun r6 er6 => ?_)
  exact W.zret (v := r6) hx hb hr (gB (by rw [er6]; exact qb_X10_within _ _ _)) (fun t ht _ => ⟨r6, rfl, by subst er6; first | (simp only [q_X10_isHour]; done) | contradiction, ht⟩) (fun _ h => nomatch h) dX10_isHour_9
theorem qb_X10_isHour  (p1 : Int32) : q_X10_isHour p1 = 0 ∨ q_X10_isHour p1 = 1 := by
  unfold q_X10_isHour
  repeat' (first | exact Or.inl rfl | exact Or.inr rfl | exact qb_X10_within _ _ _ | split | (simp only []; split))

def q_X10_isDay  (p1 : Int32) : Int32 := (let r6 := q_X10_within (p1.toInt64) 0 365; r6)
set_option maxHeartbeats 4000000 in
set_option maxRecDepth 100000 in
theorem c_X10_isDay (l : Launch) (p1 : Int32)  : Met l yX10_isDay wsX10_isDay ({ frames := 1, cells := 0, slots := 0, locals := 25 }) (va_Pc [.int (p1)] (fun _ => True)) (vp_Si (fun r => r = q_X10_isDay p1)) 0 0 (fun _ => False) := by
  refine Met.ofW (cc := cX10_isDay) (maxL := 1) (ret := (some .boolean)) (by decide) rfl ?_
  intro p e s m args below meth c s₁ B hml hv
  obtain ⟨rfl, -⟩ := hv
  have hx := B.exec
  have hb := B.bytes
  have hr := B.returns
  have hts := atoms_spec (ws := wsX10_isDay) B.pre
  have hown : s.vm.findClass RX10 = some m.cls := findClass_of_methodNamed B.named
  have hlocks := B.notSynchronized
  have hl := lv_entry ([.int (p1)]) (n := 1) (Nat.le_of_ble_eq_true rfl)
  rw [lg_entry_eq]
  generalize (lg_sl ([.int (p1)]) ++ List.replicate (1 - (lg_sl ([.int (p1)])).length) Slot.unset).toArray = ls at hl ⊢
  have hl : lv_has ls 1 [(0, .int (p1))] := hl
  refine lv_iload_n hx hb dX10_isDay_0 rfl (lv_at hl 0 rfl) ?_
  refine lv_i2l (v := p1.toInt64) hx hb dX10_isDay_1 rfl ?_
  refine lv_lconst (v := 0) hx hb dX10_isDay_2 (by decide) ?_
  refine lv_ldc2 hx hb (v := 365) hown (hts (.constantLong RX10 320 (365)) (by decide +kernel)) dX10_isDay_3 ?_
  refine k_Si (va_runS (As := [.long (p1.toInt64), .long (0), .long (365)]) (rest := []) ⟨hx, hb, hml, hown, hts⟩ (c_X10_within l (p1.toInt64) 0 365) (va_cwS 3 hts gX10_isDay_X10_within rfl rfl rfl (by decide +kernel) ⟨Nat.le_of_ble_eq_true rfl, Nat.le_of_ble_eq_true rfl⟩) gP0 rfl rfl hl.1 rfl (lv_room (Nat.le_of_ble_eq_true rfl)) dX10_isDay_6 ⟨Nat.le_of_ble_eq_true rfl, Nat.le_of_ble_eq_true rfl⟩) (fun r6 er6 => ?_)
  exact W.zret (v := r6) hx hb hr (gB (by rw [er6]; exact qb_X10_within _ _ _)) (fun t ht _ => ⟨r6, rfl, by subst er6; first | (simp only [q_X10_isDay]; done) | contradiction, ht⟩) (fun _ h => nomatch h) dX10_isDay_9
theorem qb_X10_isDay  (p1 : Int32) : q_X10_isDay p1 = 0 ∨ q_X10_isDay p1 = 1 := by
  unfold q_X10_isDay
  repeat' (first | exact Or.inl rfl | exact Or.inr rfl | exact qb_X10_within _ _ _ | split | (simp only []; split))

def q_X10_isTime  (p1 : Int32) (p2 : Int32) : Int32 := (let r1 := q_X10_isDay p1; (if r1 = 0 then 0 else (let r13 := q_X10_within (p2.toInt64) 0 1439; (if r13 = 0 then 0 else 1))))
set_option maxHeartbeats 4000000 in
set_option maxRecDepth 100000 in
theorem c_X10_isTime (l : Launch) (p1 : Int32) (p2 : Int32)  : Met l yX10_isTime wsX10_isTime ({ frames := 2, cells := 0, slots := 0, locals := 45 }) (va_Pc [.int (p1), .int (p2)] (fun _ => True)) (vp_Si (fun r => r = q_X10_isTime p1 p2)) 0 0 (fun _ => False) := by
  refine Met.ofW (cc := cX10_isTime) (maxL := 2) (ret := (some .boolean)) (by decide) rfl ?_
  intro p e s m args below meth c s₁ B hml hv
  obtain ⟨rfl, -⟩ := hv
  have hx := B.exec
  have hb := B.bytes
  have hr := B.returns
  have hts := atoms_spec (ws := wsX10_isTime) B.pre
  have hown : s.vm.findClass RX10 = some m.cls := findClass_of_methodNamed B.named
  have hlocks := B.notSynchronized
  have hl := lv_entry ([.int (p1), .int (p2)]) (n := 2) (Nat.le_of_ble_eq_true rfl)
  rw [lg_entry_eq]
  generalize (lg_sl ([.int (p1), .int (p2)]) ++ List.replicate (2 - (lg_sl ([.int (p1), .int (p2)])).length) Slot.unset).toArray = ls at hl ⊢
  have hl : lv_has ls 2 [(0, .int (p1)), (1, .int (p2))] := hl
  refine lv_iload_n hx hb dX10_isTime_0 rfl (lv_at hl 0 rfl) ?_
  refine k_Si (va_runS (As := [.int (p1)]) (rest := []) ⟨hx, hb, hml, hown, hts⟩ (c_X10_isDay l p1) (va_cwS 1 hts gX10_isTime_X10_isDay rfl rfl rfl (by decide +kernel) ⟨Nat.le_of_ble_eq_true rfl, Nat.le_of_ble_eq_true rfl⟩) gP0 rfl rfl hl.1 rfl (lv_room (Nat.le_of_ble_eq_true rfl)) dX10_isTime_1 ⟨Nat.le_of_ble_eq_true rfl, Nat.le_of_ble_eq_true rfl⟩) (fun r1 er1 => ?_)
  refine lv_if_eq (tgt := 23) hx hb dX10_isTime_4 (by decide) (fun c4 => ?_) (fun c4 => ?_)
  · refine lv_iconst (v := 0) hx hb dX10_isTime_23 (by decide) ?_
    exact W.zret (v := 0) hx hb hr rfl (fun t ht _ => ⟨0, rfl, by subst er1; first | (simp only [q_X10_isTime, if_pos c4]; done) | contradiction, ht⟩) (fun _ h => nomatch h) dX10_isTime_24
  · refine lv_iload_n hx hb dX10_isTime_7 rfl (lv_at hl 1 rfl) ?_
    refine lv_i2l (v := p2.toInt64) hx hb dX10_isTime_8 rfl ?_
    refine lv_lconst (v := 0) hx hb dX10_isTime_9 (by decide) ?_
    refine lv_ldc2 hx hb (v := 1439) hown (hts (.constantLong RX10 322 (1439)) (by decide +kernel)) dX10_isTime_10 ?_
    refine k_Si (va_runS (As := [.long (p2.toInt64), .long (0), .long (1439)]) (rest := []) ⟨hx, hb, hml, hown, hts⟩ (c_X10_within l (p2.toInt64) 0 1439) (va_cwS 3 hts gX10_isTime_X10_within rfl rfl rfl (by decide +kernel) ⟨Nat.le_of_ble_eq_true rfl, Nat.le_of_ble_eq_true rfl⟩) gP0 rfl rfl hl.1 rfl (lv_room (Nat.le_of_ble_eq_true rfl)) dX10_isTime_13 ⟨Nat.le_of_ble_eq_true rfl, Nat.le_of_ble_eq_true rfl⟩) (fun r13 er13 => ?_)
    refine lv_if_eq (tgt := 23) hx hb dX10_isTime_16 (by decide) (fun c16 => ?_) (fun c16 => ?_)
    · refine lv_iconst (v := 0) hx hb dX10_isTime_23 (by decide) ?_
      exact W.zret (v := 0) hx hb hr rfl (fun t ht _ => ⟨0, rfl, by subst er13; subst er1; first | (simp only [q_X10_isTime, if_neg c4, if_pos c16]; done) | contradiction, ht⟩) (fun _ h => nomatch h) dX10_isTime_24
    · refine lv_iconst (v := 1) hx hb dX10_isTime_19 (by decide) ?_
      refine lv_goto (tgt := 24) hx hb dX10_isTime_20 (by decide) ?_
      exact W.zret (v := 1) hx hb hr rfl (fun t ht _ => ⟨1, rfl, by subst er13; subst er1; first | (simp only [q_X10_isTime, if_neg c4, if_neg c16]; done) | contradiction, ht⟩) (fun _ h => nomatch h) dX10_isTime_24
theorem qb_X10_isTime  (p1 : Int32) (p2 : Int32) : q_X10_isTime p1 p2 = 0 ∨ q_X10_isTime p1 p2 = 1 := by
  unfold q_X10_isTime
  repeat' (first | exact Or.inl rfl | exact Or.inr rfl | exact qb_X10_isDay _ | exact qb_X10_within _ _ _ | split | (simp only []; split))

def q_X10_isNear  (p1 : Int64) : Int32 := (let r7 := q_X10_within p1 (-1000000) 1000000; r7)
set_option maxHeartbeats 4000000 in
set_option maxRecDepth 100000 in
theorem c_X10_isNear (l : Launch) (p1 : Int64)  : Met l yX10_isNear wsX10_isNear ({ frames := 1, cells := 0, slots := 0, locals := 25 }) (va_Pc [.long (p1)] (fun _ => True)) (vp_Si (fun r => r = q_X10_isNear p1)) 0 0 (fun _ => False) := by
  refine Met.ofW (cc := cX10_isNear) (maxL := 2) (ret := (some .boolean)) (by decide) rfl ?_
  intro p e s m args below meth c s₁ B hml hv
  obtain ⟨rfl, -⟩ := hv
  have hx := B.exec
  have hb := B.bytes
  have hr := B.returns
  have hts := atoms_spec (ws := wsX10_isNear) B.pre
  have hown : s.vm.findClass RX10 = some m.cls := findClass_of_methodNamed B.named
  have hlocks := B.notSynchronized
  have hl := lv_entry ([.long (p1)]) (n := 2) (Nat.le_of_ble_eq_true rfl)
  rw [lg_entry_eq]
  generalize (lg_sl ([.long (p1)]) ++ List.replicate (2 - (lg_sl ([.long (p1)])).length) Slot.unset).toArray = ls at hl ⊢
  have hl : lv_has ls 2 [(0, .long (p1))] := hl
  refine lv_lload_n hx hb dX10_isNear_0 rfl (lv_at hl 0 rfl) ?_
  refine lv_ldc2 hx hb (v := (-1000000)) hown (hts (.constantLong RX10 324 (-1000000)) (by decide +kernel)) dX10_isNear_1 ?_
  refine lv_ldc2 hx hb (v := 1000000) hown (hts (.constantLong RX10 326 (1000000)) (by decide +kernel)) dX10_isNear_4 ?_
  refine k_Si (va_runS (As := [.long (p1), .long ((-1000000)), .long (1000000)]) (rest := []) ⟨hx, hb, hml, hown, hts⟩ (c_X10_within l p1 (-1000000) 1000000) (va_cwS 3 hts gX10_isNear_X10_within rfl rfl rfl (by decide +kernel) ⟨Nat.le_of_ble_eq_true rfl, Nat.le_of_ble_eq_true rfl⟩) gP0 rfl rfl hl.1 rfl (lv_room (Nat.le_of_ble_eq_true rfl)) dX10_isNear_7 ⟨Nat.le_of_ble_eq_true rfl, Nat.le_of_ble_eq_true rfl⟩) (fun r7 er7 => ?_)
  exact W.zret (v := r7) hx hb hr (gB (by rw [er7]; exact qb_X10_within _ _ _)) (fun t ht _ => ⟨r7, rfl, by subst er7; first | (simp only [q_X10_isNear]; done) | contradiction, ht⟩) (fun _ h => nomatch h) dX10_isNear_10
theorem qb_X10_isNear  (p1 : Int64) : q_X10_isNear p1 = 0 ∨ q_X10_isNear p1 = 1 := by
  unfold q_X10_isNear
  repeat' (first | exact Or.inl rfl | exact Or.inr rfl | exact qb_X10_within _ _ _ | split | (simp only []; split))

def q_X10_dot  (p1 : Int32) (p2 : Int32) : Int32 := (((p1.toInt64) * (p2.toInt64)) >>> ((14 : Int32).toInt64 &&& 63)).toInt32
set_option maxHeartbeats 4000000 in
set_option maxRecDepth 100000 in
theorem c_X10_dot (l : Launch) (p1 : Int32) (p2 : Int32)  : Met l yX10_dot wsX10_dot ({ frames := 0, cells := 0, slots := 0, locals := 0 }) (va_Pc [.int (p1), .int (p2)] (fun _ => True)) (vp_Si (fun r => r = q_X10_dot p1 p2)) 0 0 (fun _ => False) := by
  refine Met.ofW (cc := cX10_dot) (maxL := 2) (ret := (some .int)) (by decide) rfl ?_
  intro p e s m args below meth c s₁ B hml hv
  obtain ⟨rfl, -⟩ := hv
  have hx := B.exec
  have hb := B.bytes
  have hr := B.returns
  have hts := atoms_spec (ws := wsX10_dot) B.pre
  have hown : s.vm.findClass RX10 = some m.cls := findClass_of_methodNamed B.named
  have hlocks := B.notSynchronized
  have hl := lv_entry ([.int (p1), .int (p2)]) (n := 2) (Nat.le_of_ble_eq_true rfl)
  rw [lg_entry_eq]
  generalize (lg_sl ([.int (p1), .int (p2)]) ++ List.replicate (2 - (lg_sl ([.int (p1), .int (p2)])).length) Slot.unset).toArray = ls at hl ⊢
  have hl : lv_has ls 2 [(0, .int (p1)), (1, .int (p2))] := hl
  refine lv_iload_n hx hb dX10_dot_0 rfl (lv_at hl 0 rfl) ?_
  refine lv_i2l (v := p1.toInt64) hx hb dX10_dot_1 rfl ?_
  refine lv_iload_n hx hb dX10_dot_2 rfl (lv_at hl 1 rfl) ?_
  refine lv_i2l (v := p2.toInt64) hx hb dX10_dot_3 rfl ?_
  refine lv_lmul hx hb dX10_dot_4 ?_
  refine lv_bipush (v := 14) hx hb dX10_dot_5 (by decide) ?_
  refine lv_lshr (v := ((p1.toInt64) * (p2.toInt64)) >>> ((14 : Int32).toInt64 &&& 63)) hx hb dX10_dot_7 rfl ?_
  refine lv_l2i (v := (((p1.toInt64) * (p2.toInt64)) >>> ((14 : Int32).toInt64 &&& 63)).toInt32) hx hb dX10_dot_8 rfl ?_
  exact W.iret (v := (((p1.toInt64) * (p2.toInt64)) >>> ((14 : Int32).toInt64 &&& 63)).toInt32) hx hb hr (fun t ht _ => ⟨(((p1.toInt64) * (p2.toInt64)) >>> ((14 : Int32).toInt64 &&& 63)).toInt32, rfl, by first | (simp only [q_X10_dot]; done) | contradiction, ht⟩) (fun _ h => nomatch h) dX10_dot_9

def q_X10_sineOf  (p1 : Int32) : Int32 := (let x5 := p1 &&& 32767; (let x15 := (x5.toInt64) * ((32768 - x5).toInt64); (let x28 := ((65536 * x15) / (1342177280 - x15)).toInt32; (if (p1 &&& 32768) = 0 then x28 else -x28))))
set_option maxHeartbeats 4000000 in
set_option maxRecDepth 100000 in
theorem c_X10_sineOf (l : Launch) (p1 : Int32)  : Met l yX10_sineOf wsX10_sineOf ({ frames := 0, cells := 0, slots := 0, locals := 0 }) (va_Pc [.int (p1)] (fun _ => True)) (vp_Si (fun r => r = q_X10_sineOf p1)) 0 0 (fun _ => False) := by
  refine Met.ofW (cc := cX10_sineOf) (maxL := 5) (ret := (some .int)) (by decide) rfl ?_
  intro p e s m args below meth c s₁ B hml hv
  obtain ⟨rfl, -⟩ := hv
  have hx := B.exec
  have hb := B.bytes
  have hr := B.returns
  have hts := atoms_spec (ws := wsX10_sineOf) B.pre
  have hown : s.vm.findClass RX10 = some m.cls := findClass_of_methodNamed B.named
  have hlocks := B.notSynchronized
  have hl := lv_entry ([.int (p1)]) (n := 5) (Nat.le_of_ble_eq_true rfl)
  rw [lg_entry_eq]
  generalize (lg_sl ([.int (p1)]) ++ List.replicate (5 - (lg_sl ([.int (p1)])).length) Slot.unset).toArray = ls at hl ⊢
  have hl : lv_has ls 5 [(0, .int (p1))] := hl
  refine lv_iload_n hx hb dX10_sineOf_0 rfl (lv_at hl 0 rfl) ?_
  refine lv_sipush (v := 32767) hx hb dX10_sineOf_1 (by decide) ?_
  refine lv_iand hx hb dX10_sineOf_4 ?_
  refine lv_topi (fun x5 ex5 => ?_)
  refine lv_istore_n (lv' := [(1, .int (x5)), (0, .int (p1))]) hx hb dX10_sineOf_5 rfl hl (by decide) rfl (fun ls hl => ?_)
  refine lv_iload_n hx hb dX10_sineOf_6 rfl (lv_at hl 0 rfl) ?_
  refine lv_i2l (v := x5.toInt64) hx hb dX10_sineOf_7 rfl ?_
  refine lv_ldcw hx hb (v := 32768) hown (hts (.constant RX10 328 (32768)) (by decide +kernel)) dX10_sineOf_8 ?_
  refine lv_iload_n hx hb dX10_sineOf_11 rfl (lv_at hl 0 rfl) ?_
  refine lv_isub hx hb dX10_sineOf_12 ?_
  refine lv_i2l (v := (32768 - x5).toInt64) hx hb dX10_sineOf_13 rfl ?_
  refine lv_lmul hx hb dX10_sineOf_14 ?_
  refine lv_topl (fun x15 ex15 => ?_)
  refine lv_lstore_n (lv' := [(2, .long (x15)), (1, .int (x5)), (0, .int (p1))]) hx hb dX10_sineOf_15 rfl hl (by decide) rfl (fun ls hl => ?_)
  refine lv_ldc2 hx hb (v := 65536) hown (hts (.constantLong RX10 329 (65536)) (by decide +kernel)) dX10_sineOf_16 ?_
  refine lv_lload_n hx hb dX10_sineOf_19 rfl (lv_at hl 0 rfl) ?_
  refine lv_lmul hx hb dX10_sineOf_20 ?_
  refine lv_ldc2 hx hb (v := 1342177280) hown (hts (.constantLong RX10 331 (1342177280)) (by decide +kernel)) dX10_sineOf_21 ?_
  refine lv_lload_n hx hb dX10_sineOf_24 rfl (lv_at hl 0 rfl) ?_
  refine lv_lsub hx hb dX10_sineOf_25 ?_
  refine lv_ldiv hx hb dX10_sineOf_26 (sn_ne ex5 ex15) ?_
  refine lv_l2i (v := ((65536 * x15) / (1342177280 - x15)).toInt32) hx hb dX10_sineOf_27 rfl ?_
  refine lv_topi (fun x28 ex28 => ?_)
  refine lv_istore (lv' := [(4, .int (x28)), (2, .long (x15)), (1, .int (x5)), (0, .int (p1))]) hx hb dX10_sineOf_28 hl (by decide) rfl (fun ls hl => ?_)
  refine lv_iload_n hx hb dX10_sineOf_30 rfl (lv_at hl 3 rfl) ?_
  refine lv_ldcw hx hb (v := 32768) hown (hts (.constant RX10 328 (32768)) (by decide +kernel)) dX10_sineOf_31 ?_
  refine lv_iand hx hb dX10_sineOf_34 ?_
  refine lv_if_ne (tgt := 43) hx hb dX10_sineOf_35 (by decide) (fun c35 => ?_) (fun c35 => ?_)
  · refine lv_iload hx hb dX10_sineOf_43 (lv_at hl 0 rfl) ?_
    refine lv_ineg hx hb dX10_sineOf_45 ?_
    exact W.iret (v := -x28) hx hb hr (fun t ht _ => ⟨-x28, rfl, by subst ex28; subst ex15; subst ex5; first | (simp only [q_X10_sineOf, if_neg c35]; done) | contradiction, ht⟩) (fun _ h => nomatch h) dX10_sineOf_46
  · refine lv_iload hx hb dX10_sineOf_38 (lv_at hl 0 rfl) ?_
    refine lv_goto (tgt := 46) hx hb dX10_sineOf_40 (by decide) ?_
    exact W.iret (v := x28) hx hb hr (fun t ht _ => ⟨x28, rfl, by subst ex28; subst ex15; subst ex5; first | (simp only [q_X10_sineOf, if_pos c35]; done) | contradiction, ht⟩) (fun _ h => nomatch h) dX10_sineOf_46

def q_X10_cosineOf  (p1 : Int32) : Int32 := (let r5 := q_X10_sineOf (p1 + 16384); r5)
set_option maxHeartbeats 4000000 in
set_option maxRecDepth 100000 in
theorem c_X10_cosineOf (l : Launch) (p1 : Int32)  : Met l yX10_cosineOf wsX10_cosineOf ({ frames := 1, cells := 0, slots := 0, locals := 24 }) (va_Pc [.int (p1)] (fun _ => True)) (vp_Si (fun r => r = q_X10_cosineOf p1)) 0 0 (fun _ => False) := by
  refine Met.ofW (cc := cX10_cosineOf) (maxL := 1) (ret := (some .int)) (by decide) rfl ?_
  intro p e s m args below meth c s₁ B hml hv
  obtain ⟨rfl, -⟩ := hv
  have hx := B.exec
  have hb := B.bytes
  have hr := B.returns
  have hts := atoms_spec (ws := wsX10_cosineOf) B.pre
  have hown : s.vm.findClass RX10 = some m.cls := findClass_of_methodNamed B.named
  have hlocks := B.notSynchronized
  have hl := lv_entry ([.int (p1)]) (n := 1) (Nat.le_of_ble_eq_true rfl)
  rw [lg_entry_eq]
  generalize (lg_sl ([.int (p1)]) ++ List.replicate (1 - (lg_sl ([.int (p1)])).length) Slot.unset).toArray = ls at hl ⊢
  have hl : lv_has ls 1 [(0, .int (p1))] := hl
  refine lv_iload_n hx hb dX10_cosineOf_0 rfl (lv_at hl 0 rfl) ?_
  refine lv_sipush (v := 16384) hx hb dX10_cosineOf_1 (by decide) ?_
  refine lv_iadd hx hb dX10_cosineOf_4 ?_
  refine k_Si (va_runS (As := [.int (p1 + 16384)]) (rest := []) ⟨hx, hb, hml, hown, hts⟩ (c_X10_sineOf l (p1 + 16384)) (va_cwS 1 hts gX10_cosineOf_X10_sineOf rfl rfl rfl (by decide +kernel) ⟨Nat.le_of_ble_eq_true rfl, Nat.le_of_ble_eq_true rfl⟩) gP0 rfl rfl hl.1 rfl (lv_room (Nat.le_of_ble_eq_true rfl)) dX10_cosineOf_5 ⟨Nat.le_of_ble_eq_true rfl, Nat.le_of_ble_eq_true rfl⟩) (fun r5 er5 => ?_)
  exact W.iret (v := r5) hx hb hr (fun t ht _ => ⟨r5, rfl, by subst er5; first | (simp only [q_X10_cosineOf]; done) | contradiction, ht⟩) (fun _ h => nomatch h) dX10_cosineOf_8

def q_X11_isIn  (p1 : Int64) (p2 : Int64) (p3 : Int64) : Int32 := (if p1 < p2 then 0 else (if p3 < p1 then 0 else 1))
set_option maxHeartbeats 4000000 in
set_option maxRecDepth 100000 in
theorem c_X11_isIn (l : Launch) (p1 : Int64) (p2 : Int64) (p3 : Int64)  : Met l yX11_isIn wsX11_isIn ({ frames := 0, cells := 0, slots := 0, locals := 0 }) (va_Pc [.long (p1), .long (p2), .long (p3)] (fun _ => True)) (vp_Si (fun r => r = q_X11_isIn p1 p2 p3)) 0 0 (fun _ => False) := by
  refine Met.ofW (cc := cX11_isIn) (maxL := 6) (ret := (some .boolean)) (by decide) rfl ?_
  intro p e s m args below meth c s₁ B hml hv
  obtain ⟨rfl, -⟩ := hv
  have hx := B.exec
  have hb := B.bytes
  have hr := B.returns
  have hts := atoms_spec (ws := wsX11_isIn) B.pre
  have hown : s.vm.findClass RX11 = some m.cls := findClass_of_methodNamed B.named
  have hlocks := B.notSynchronized
  have hl := lv_entry ([.long (p1), .long (p2), .long (p3)]) (n := 6) (Nat.le_of_ble_eq_true rfl)
  rw [lg_entry_eq]
  generalize (lg_sl ([.long (p1), .long (p2), .long (p3)]) ++ List.replicate (6 - (lg_sl ([.long (p1), .long (p2), .long (p3)])).length) Slot.unset).toArray = ls at hl ⊢
  have hl : lv_has ls 6 [(0, .long (p1)), (2, .long (p2)), (4, .long (p3))] := hl
  refine lv_lload_n hx hb dX11_isIn_0 rfl (lv_at hl 0 rfl) ?_
  refine lv_lload_n hx hb dX11_isIn_1 rfl (lv_at hl 1 rfl) ?_
  refine k_llt (tgt := 17) hx hb dX11_isIn_2 dX11_isIn_3 (by decide) (fun c2 => ?_) (fun c2 => ?_)
  · refine lv_iconst (v := 0) hx hb dX11_isIn_17 (by decide) ?_
    exact W.zret (v := 0) hx hb hr rfl (fun t ht _ => ⟨0, rfl, by first | (simp only [q_X11_isIn, if_pos c2]; done) | contradiction, ht⟩) (fun _ h => nomatch h) dX11_isIn_18
  · refine lv_lload_n hx hb dX11_isIn_6 rfl (lv_at hl 0 rfl) ?_
    refine lv_lload hx hb dX11_isIn_7 (lv_at hl 2 rfl) ?_
    refine k_lgt (tgt := 17) hx hb dX11_isIn_9 dX11_isIn_10 (by decide) (fun c9 => ?_) (fun c9 => ?_)
    · refine lv_iconst (v := 0) hx hb dX11_isIn_17 (by decide) ?_
      exact W.zret (v := 0) hx hb hr rfl (fun t ht _ => ⟨0, rfl, by first | (simp only [q_X11_isIn, if_neg c2, if_pos c9]; done) | contradiction, ht⟩) (fun _ h => nomatch h) dX11_isIn_18
    · refine lv_iconst (v := 1) hx hb dX11_isIn_13 (by decide) ?_
      refine lv_goto (tgt := 18) hx hb dX11_isIn_14 (by decide) ?_
      exact W.zret (v := 1) hx hb hr rfl (fun t ht _ => ⟨1, rfl, by first | (simp only [q_X11_isIn, if_neg c2, if_neg c9]; done) | contradiction, ht⟩) (fun _ h => nomatch h) dX11_isIn_18
theorem qb_X11_isIn  (p1 : Int64) (p2 : Int64) (p3 : Int64) : q_X11_isIn p1 p2 p3 = 0 ∨ q_X11_isIn p1 p2 p3 = 1 := by
  unfold q_X11_isIn
  repeat' (first | exact Or.inl rfl | exact Or.inr rfl | split | (simp only []; split))

def q_X11_down  (p1 : Int64) (p2 : Int64) : Int64 := (let x3 := p1 / p2; (if (p1 - p1 / p2 * p2) = 0 then x3 else (if 0 ≤ p1 then (if 0 ≤ p2 then x3 else x3 - 1) else (if 0 ≤ p2 then x3 - 1 else x3))))
set_option maxHeartbeats 4000000 in
set_option maxRecDepth 100000 in
theorem c_X11_down (l : Launch) (p1 : Int64) (p2 : Int64) (hp2 : ¬ p2 = 0) : Met l yX11_down wsX11_down ({ frames := 0, cells := 0, slots := 0, locals := 0 }) (va_Pc [.long (p1), .long (p2)] (fun _ => True)) (vp_Sl (fun r => r = q_X11_down p1 p2)) 0 0 (fun _ => False) := by
  refine Met.ofW (cc := cX11_down) (maxL := 6) (ret := (some .long)) (by decide) rfl ?_
  intro p e s m args below meth c s₁ B hml hv
  obtain ⟨rfl, -⟩ := hv
  have hx := B.exec
  have hb := B.bytes
  have hr := B.returns
  have hts := atoms_spec (ws := wsX11_down) B.pre
  have hown : s.vm.findClass RX11 = some m.cls := findClass_of_methodNamed B.named
  have hlocks := B.notSynchronized
  have hl := lv_entry ([.long (p1), .long (p2)]) (n := 6) (Nat.le_of_ble_eq_true rfl)
  rw [lg_entry_eq]
  generalize (lg_sl ([.long (p1), .long (p2)]) ++ List.replicate (6 - (lg_sl ([.long (p1), .long (p2)])).length) Slot.unset).toArray = ls at hl ⊢
  have hl : lv_has ls 6 [(0, .long (p1)), (2, .long (p2))] := hl
  refine lv_lload_n hx hb dX11_down_0 rfl (lv_at hl 0 rfl) ?_
  refine lv_lload_n hx hb dX11_down_1 rfl (lv_at hl 1 rfl) ?_
  refine lv_ldiv hx hb dX11_down_2 hp2 ?_
  refine lv_topl (fun x3 ex3 => ?_)
  refine lv_lstore (lv' := [(4, .long (x3)), (0, .long (p1)), (2, .long (p2))]) hx hb dX11_down_3 hl (by decide) rfl (fun ls hl => ?_)
  refine lv_lload_n hx hb dX11_down_5 rfl (lv_at hl 1 rfl) ?_
  refine lv_lload_n hx hb dX11_down_6 rfl (lv_at hl 2 rfl) ?_
  refine lv_lrem hx hb dX11_down_7 hp2 ?_
  refine lv_lconst (v := 0) hx hb dX11_down_8 (by decide) ?_
  refine k_leq (tgt := 45) hx hb dX11_down_9 dX11_down_10 (by decide) (fun c9 => ?_) (fun c9 => ?_)
  · refine lv_lload hx hb dX11_down_45 (lv_at hl 0 rfl) ?_
    exact W.lret (v := x3) hx hb hr (fun t ht _ => ⟨x3, rfl, by subst ex3; first | (simp only [q_X11_down, if_pos c9]; done) | contradiction, ht⟩) (fun _ h => nomatch h) dX11_down_47
  · refine lv_lload_n hx hb dX11_down_13 rfl (lv_at hl 1 rfl) ?_
    refine lv_lconst (v := 0) hx hb dX11_down_14 (by decide) ?_
    refine k_lge (tgt := 23) hx hb dX11_down_15 dX11_down_16 (by decide) (fun c15 => ?_) (fun c15 => ?_)
    · refine lv_iconst (v := 0) hx hb dX11_down_23 (by decide) ?_
      refine lv_lload_n hx hb dX11_down_24 rfl (lv_at hl 2 rfl) ?_
      refine lv_lconst (v := 0) hx hb dX11_down_25 (by decide) ?_
      refine k_lge (tgt := 34) hx hb dX11_down_26 dX11_down_27 (by decide) (fun c26 => ?_) (fun c26 => ?_)
      · refine lv_iconst (v := 0) hx hb dX11_down_34 (by decide) ?_
        refine lv_icmp_eq (tgt := 45) hx hb dX11_down_35 (by decide) (fun c35 => ?_) (fun c35 => ?_)
        · refine lv_lload hx hb dX11_down_45 (lv_at hl 0 rfl) ?_
          exact W.lret (v := x3) hx hb hr (fun t ht _ => ⟨x3, rfl, by subst ex3; first | (simp only [q_X11_down, if_neg c9, if_pos c15, if_pos c26]; done) | contradiction, ht⟩) (fun _ h => nomatch h) dX11_down_47
        · exact absurd c35 (by decide)
      · refine lv_iconst (v := 1) hx hb dX11_down_30 (by decide) ?_
        refine lv_goto (tgt := 35) hx hb dX11_down_31 (by decide) ?_
        refine lv_icmp_eq (tgt := 45) hx hb dX11_down_35 (by decide) (fun c35 => ?_) (fun c35 => ?_)
        · exact absurd c35 (by decide)
        · refine lv_lload hx hb dX11_down_38 (lv_at hl 0 rfl) ?_
          refine lv_lconst (v := 1) hx hb dX11_down_40 (by decide) ?_
          refine lv_lsub hx hb dX11_down_41 ?_
          refine lv_goto (tgt := 47) hx hb dX11_down_42 (by decide) ?_
          exact W.lret (v := x3 - 1) hx hb hr (fun t ht _ => ⟨x3 - 1, rfl, by subst ex3; first | (simp only [q_X11_down, if_neg c9, if_pos c15, if_neg c26]; done) | contradiction, ht⟩) (fun _ h => nomatch h) dX11_down_47
    · refine lv_iconst (v := 1) hx hb dX11_down_19 (by decide) ?_
      refine lv_goto (tgt := 24) hx hb dX11_down_20 (by decide) ?_
      refine lv_lload_n hx hb dX11_down_24 rfl (lv_at hl 2 rfl) ?_
      refine lv_lconst (v := 0) hx hb dX11_down_25 (by decide) ?_
      refine k_lge (tgt := 34) hx hb dX11_down_26 dX11_down_27 (by decide) (fun c26 => ?_) (fun c26 => ?_)
      · refine lv_iconst (v := 0) hx hb dX11_down_34 (by decide) ?_
        refine lv_icmp_eq (tgt := 45) hx hb dX11_down_35 (by decide) (fun c35 => ?_) (fun c35 => ?_)
        · exact absurd c35 (by decide)
        · refine lv_lload hx hb dX11_down_38 (lv_at hl 0 rfl) ?_
          refine lv_lconst (v := 1) hx hb dX11_down_40 (by decide) ?_
          refine lv_lsub hx hb dX11_down_41 ?_
          refine lv_goto (tgt := 47) hx hb dX11_down_42 (by decide) ?_
          exact W.lret (v := x3 - 1) hx hb hr (fun t ht _ => ⟨x3 - 1, rfl, by subst ex3; first | (simp only [q_X11_down, if_neg c9, if_neg c15, if_pos c26]; done) | contradiction, ht⟩) (fun _ h => nomatch h) dX11_down_47
      · refine lv_iconst (v := 1) hx hb dX11_down_30 (by decide) ?_
        refine lv_goto (tgt := 35) hx hb dX11_down_31 (by decide) ?_
        refine lv_icmp_eq (tgt := 45) hx hb dX11_down_35 (by decide) (fun c35 => ?_) (fun c35 => ?_)
        · refine lv_lload hx hb dX11_down_45 (lv_at hl 0 rfl) ?_
          exact W.lret (v := x3) hx hb hr (fun t ht _ => ⟨x3, rfl, by subst ex3; first | (simp only [q_X11_down, if_neg c9, if_neg c15, if_neg c26]; done) | contradiction, ht⟩) (fun _ h => nomatch h) dX11_down_47
        · exact absurd c35 (by decide)

def q_X11_sineOf  (p1 : Int64) : Int64 := (let x5 := p1 &&& 65535; (if x5 < 32768 then (let x46 := x5 * (32768 - x5); (let x61 := (65536 * x46) / (1342177280 - x46); x61)) else (let x35 := x5 - 32768; (let x46 := x35 * (32768 - x35); (let x61 := (65536 * x46) / (1342177280 - x46); -x61)))))
set_option maxHeartbeats 4000000 in
set_option maxRecDepth 100000 in
theorem c_X11_sineOf (l : Launch) (p1 : Int64)  : Met l yX11_sineOf wsX11_sineOf ({ frames := 0, cells := 0, slots := 0, locals := 0 }) (va_Pc [.long (p1)] (fun _ => True)) (vp_Sl (fun r => r = q_X11_sineOf p1)) 0 0 (fun _ => False) := by
  refine Met.ofW (cc := cX11_sineOf) (maxL := 11) (ret := (some .long)) (by decide) rfl ?_
  intro p e s m args below meth c s₁ B hml hv
  obtain ⟨rfl, -⟩ := hv
  have hx := B.exec
  have hb := B.bytes
  have hr := B.returns
  have hts := atoms_spec (ws := wsX11_sineOf) B.pre
  have hown : s.vm.findClass RX11 = some m.cls := findClass_of_methodNamed B.named
  have hlocks := B.notSynchronized
  have hl := lv_entry ([.long (p1)]) (n := 11) (Nat.le_of_ble_eq_true rfl)
  rw [lg_entry_eq]
  generalize (lg_sl ([.long (p1)]) ++ List.replicate (11 - (lg_sl ([.long (p1)])).length) Slot.unset).toArray = ls at hl ⊢
  have hl : lv_has ls 11 [(0, .long (p1))] := hl
  refine lv_lload_n hx hb dX11_sineOf_0 rfl (lv_at hl 0 rfl) ?_
  refine lv_ldc2 hx hb (v := 65535) hown (hts (.constantLong RX11 49 (65535)) (by decide +kernel)) dX11_sineOf_1 ?_
  refine lv_land hx hb dX11_sineOf_4 ?_
  refine lv_topl (fun x5 ex5 => ?_)
  refine lv_lstore_n (lv' := [(2, .long (x5)), (0, .long (p1))]) hx hb dX11_sineOf_5 rfl hl (by decide) rfl (fun ls hl => ?_)
  refine lv_lload_n hx hb dX11_sineOf_6 rfl (lv_at hl 0 rfl) ?_
  refine lv_ldc2 hx hb (v := 32768) hown (hts (.constantLong RX11 51 (32768)) (by decide +kernel)) dX11_sineOf_7 ?_
  refine k_llt (tgt := 18) hx hb dX11_sineOf_10 dX11_sineOf_11 (by decide) (fun c10 => ?_) (fun c10 => ?_)
  · refine lv_iconst (v := 0) hx hb dX11_sineOf_18 (by decide) ?_
    refine lv_istore (lv' := [(4, .int (0)), (2, .long (x5)), (0, .long (p1))]) hx hb dX11_sineOf_19 hl (by decide) rfl (fun ls hl => ?_)
    refine lv_iload hx hb dX11_sineOf_21 (lv_at hl 0 rfl) ?_
    refine lv_if_eq (tgt := 34) hx hb dX11_sineOf_23 (by decide) (fun c23 => ?_) (fun c23 => ?_)
    · refine lv_lload_n hx hb dX11_sineOf_34 rfl (lv_at hl 1 rfl) ?_
      refine lv_lstore (lv' := [(5, .long (x5)), (4, .int (0)), (2, .long (x5)), (0, .long (p1))]) hx hb dX11_sineOf_35 hl (by decide) rfl (fun ls hl => ?_)
      refine lv_lload hx hb dX11_sineOf_37 (lv_at hl 0 rfl) ?_
      refine lv_ldc2 hx hb (v := 32768) hown (hts (.constantLong RX11 51 (32768)) (by decide +kernel)) dX11_sineOf_39 ?_
      refine lv_lload hx hb dX11_sineOf_42 (lv_at hl 0 rfl) ?_
      refine lv_lsub hx hb dX11_sineOf_44 ?_
      refine lv_lmul hx hb dX11_sineOf_45 ?_
      refine lv_topl (fun x46 ex46 => ?_)
      refine lv_lstore (lv' := [(7, .long (x46)), (5, .long (x5)), (4, .int (0)), (2, .long (x5)), (0, .long (p1))]) hx hb dX11_sineOf_46 hl (by decide) rfl (fun ls hl => ?_)
      refine lv_ldc2 hx hb (v := 65536) hown (hts (.constantLong RX11 53 (65536)) (by decide +kernel)) dX11_sineOf_48 ?_
      refine lv_lload hx hb dX11_sineOf_51 (lv_at hl 0 rfl) ?_
      refine lv_lmul hx hb dX11_sineOf_53 ?_
      refine lv_ldc2 hx hb (v := 1342177280) hown (hts (.constantLong RX11 55 (1342177280)) (by decide +kernel)) dX11_sineOf_54 ?_
      refine lv_lload hx hb dX11_sineOf_57 (lv_at hl 0 rfl) ?_
      refine lv_lsub hx hb dX11_sineOf_59 ?_
      refine lv_ldiv hx hb dX11_sineOf_60 (by first | exact sm_ne1 ex5 c10 ex35 ex46 | exact sm_ne2 ex5 c10 ex46) ?_
      refine lv_topl (fun x61 ex61 => ?_)
      refine lv_lstore (lv' := [(9, .long (x61)), (7, .long (x46)), (5, .long (x5)), (4, .int (0)), (2, .long (x5)), (0, .long (p1))]) hx hb dX11_sineOf_61 hl (by decide) rfl (fun ls hl => ?_)
      refine lv_iload hx hb dX11_sineOf_63 (lv_at hl 3 rfl) ?_
      refine lv_if_eq (tgt := 74) hx hb dX11_sineOf_65 (by decide) (fun c65 => ?_) (fun c65 => ?_)
      · refine lv_lload hx hb dX11_sineOf_74 (lv_at hl 0 rfl) ?_
        exact W.lret (v := x61) hx hb hr (fun t ht _ => ⟨x61, rfl, by subst ex61; subst ex46; subst ex5; first | (simp only [q_X11_sineOf, if_pos c10]; done) | contradiction, ht⟩) (fun _ h => nomatch h) dX11_sineOf_76
      · exact absurd c65 (by decide)
    · exact absurd c23 (by decide)
  · refine lv_iconst (v := 1) hx hb dX11_sineOf_14 (by decide) ?_
    refine lv_goto (tgt := 19) hx hb dX11_sineOf_15 (by decide) ?_
    refine lv_istore (lv' := [(4, .int (1)), (2, .long (x5)), (0, .long (p1))]) hx hb dX11_sineOf_19 hl (by decide) rfl (fun ls hl => ?_)
    refine lv_iload hx hb dX11_sineOf_21 (lv_at hl 0 rfl) ?_
    refine lv_if_eq (tgt := 34) hx hb dX11_sineOf_23 (by decide) (fun c23 => ?_) (fun c23 => ?_)
    · exact absurd c23 (by decide)
    · refine lv_lload_n hx hb dX11_sineOf_26 rfl (lv_at hl 1 rfl) ?_
      refine lv_ldc2 hx hb (v := 32768) hown (hts (.constantLong RX11 51 (32768)) (by decide +kernel)) dX11_sineOf_27 ?_
      refine lv_lsub hx hb dX11_sineOf_30 ?_
      refine lv_goto (tgt := 35) hx hb dX11_sineOf_31 (by decide) ?_
      refine lv_topl (fun x35 ex35 => ?_)
      refine lv_lstore (lv' := [(5, .long (x35)), (4, .int (1)), (2, .long (x5)), (0, .long (p1))]) hx hb dX11_sineOf_35 hl (by decide) rfl (fun ls hl => ?_)
      refine lv_lload hx hb dX11_sineOf_37 (lv_at hl 0 rfl) ?_
      refine lv_ldc2 hx hb (v := 32768) hown (hts (.constantLong RX11 51 (32768)) (by decide +kernel)) dX11_sineOf_39 ?_
      refine lv_lload hx hb dX11_sineOf_42 (lv_at hl 0 rfl) ?_
      refine lv_lsub hx hb dX11_sineOf_44 ?_
      refine lv_lmul hx hb dX11_sineOf_45 ?_
      refine lv_topl (fun x46 ex46 => ?_)
      refine lv_lstore (lv' := [(7, .long (x46)), (5, .long (x35)), (4, .int (1)), (2, .long (x5)), (0, .long (p1))]) hx hb dX11_sineOf_46 hl (by decide) rfl (fun ls hl => ?_)
      refine lv_ldc2 hx hb (v := 65536) hown (hts (.constantLong RX11 53 (65536)) (by decide +kernel)) dX11_sineOf_48 ?_
      refine lv_lload hx hb dX11_sineOf_51 (lv_at hl 0 rfl) ?_
      refine lv_lmul hx hb dX11_sineOf_53 ?_
      refine lv_ldc2 hx hb (v := 1342177280) hown (hts (.constantLong RX11 55 (1342177280)) (by decide +kernel)) dX11_sineOf_54 ?_
      refine lv_lload hx hb dX11_sineOf_57 (lv_at hl 0 rfl) ?_
      refine lv_lsub hx hb dX11_sineOf_59 ?_
      refine lv_ldiv hx hb dX11_sineOf_60 (by first | exact sm_ne1 ex5 c10 ex35 ex46 | exact sm_ne2 ex5 c10 ex46) ?_
      refine lv_topl (fun x61 ex61 => ?_)
      refine lv_lstore (lv' := [(9, .long (x61)), (7, .long (x46)), (5, .long (x35)), (4, .int (1)), (2, .long (x5)), (0, .long (p1))]) hx hb dX11_sineOf_61 hl (by decide) rfl (fun ls hl => ?_)
      refine lv_iload hx hb dX11_sineOf_63 (lv_at hl 3 rfl) ?_
      refine lv_if_eq (tgt := 74) hx hb dX11_sineOf_65 (by decide) (fun c65 => ?_) (fun c65 => ?_)
      · exact absurd c65 (by decide)
      · refine lv_lload hx hb dX11_sineOf_68 (lv_at hl 0 rfl) ?_
        refine lv_lneg hx hb dX11_sineOf_70 ?_
        refine lv_goto (tgt := 76) hx hb dX11_sineOf_71 (by decide) ?_
        exact W.lret (v := -x61) hx hb hr (fun t ht _ => ⟨-x61, rfl, by subst ex61; subst ex46; subst ex35; subst ex5; first | (simp only [q_X11_sineOf, if_neg c10]; done) | contradiction, ht⟩) (fun _ h => nomatch h) dX11_sineOf_76

def q_X11_cosineOf  (p1 : Int64) : Int64 := (let r5 := q_X11_sineOf (p1 + 16384); r5)
set_option maxHeartbeats 4000000 in
set_option maxRecDepth 100000 in
theorem c_X11_cosineOf (l : Launch) (p1 : Int64)  : Met l yX11_cosineOf wsX11_cosineOf ({ frames := 1, cells := 0, slots := 0, locals := 30 }) (va_Pc [.long (p1)] (fun _ => True)) (vp_Sl (fun r => r = q_X11_cosineOf p1)) 0 0 (fun _ => False) := by
  refine Met.ofW (cc := cX11_cosineOf) (maxL := 2) (ret := (some .long)) (by decide) rfl ?_
  intro p e s m args below meth c s₁ B hml hv
  obtain ⟨rfl, -⟩ := hv
  have hx := B.exec
  have hb := B.bytes
  have hr := B.returns
  have hts := atoms_spec (ws := wsX11_cosineOf) B.pre
  have hown : s.vm.findClass RX11 = some m.cls := findClass_of_methodNamed B.named
  have hlocks := B.notSynchronized
  have hl := lv_entry ([.long (p1)]) (n := 2) (Nat.le_of_ble_eq_true rfl)
  rw [lg_entry_eq]
  generalize (lg_sl ([.long (p1)]) ++ List.replicate (2 - (lg_sl ([.long (p1)])).length) Slot.unset).toArray = ls at hl ⊢
  have hl : lv_has ls 2 [(0, .long (p1))] := hl
  refine lv_lload_n hx hb dX11_cosineOf_0 rfl (lv_at hl 0 rfl) ?_
  refine lv_ldc2 hx hb (v := 16384) hown (hts (.constantLong RX11 57 (16384)) (by decide +kernel)) dX11_cosineOf_1 ?_
  refine lv_ladd hx hb dX11_cosineOf_4 ?_
  refine k_Sl (va_runS (As := [.long (p1 + 16384)]) (rest := []) ⟨hx, hb, hml, hown, hts⟩ (c_X11_sineOf l (p1 + 16384)) (va_cwS 1 hts gX11_cosineOf_X11_sineOf rfl rfl rfl (by decide +kernel) ⟨Nat.le_of_ble_eq_true rfl, Nat.le_of_ble_eq_true rfl⟩) gP0 rfl rfl hl.1 rfl (lv_room (Nat.le_of_ble_eq_true rfl)) dX11_cosineOf_5 ⟨Nat.le_of_ble_eq_true rfl, Nat.le_of_ble_eq_true rfl⟩) (fun r5 er5 => ?_)
  exact W.lret (v := r5) hx hb hr (fun t ht _ => ⟨r5, rfl, by subst er5; first | (simp only [q_X11_cosineOf]; done) | contradiction, ht⟩) (fun _ h => nomatch h) dX11_cosineOf_8

def q_X11_times  (p1 : Int64) (p2 : Int64) : Int64 := (let r6 := q_X11_down (p1 * p2) 16384; r6)
set_option maxHeartbeats 4000000 in
set_option maxRecDepth 100000 in
theorem c_X11_times (l : Launch) (p1 : Int64) (p2 : Int64)  : Met l yX11_times wsX11_times ({ frames := 1, cells := 0, slots := 0, locals := 25 }) (va_Pc [.long (p1), .long (p2)] (fun _ => True)) (vp_Sl (fun r => r = q_X11_times p1 p2)) 0 0 (fun _ => False) := by
  refine Met.ofW (cc := cX11_times) (maxL := 4) (ret := (some .long)) (by decide) rfl ?_
  intro p e s m args below meth c s₁ B hml hv
  obtain ⟨rfl, -⟩ := hv
  have hx := B.exec
  have hb := B.bytes
  have hr := B.returns
  have hts := atoms_spec (ws := wsX11_times) B.pre
  have hown : s.vm.findClass RX11 = some m.cls := findClass_of_methodNamed B.named
  have hlocks := B.notSynchronized
  have hl := lv_entry ([.long (p1), .long (p2)]) (n := 4) (Nat.le_of_ble_eq_true rfl)
  rw [lg_entry_eq]
  generalize (lg_sl ([.long (p1), .long (p2)]) ++ List.replicate (4 - (lg_sl ([.long (p1), .long (p2)])).length) Slot.unset).toArray = ls at hl ⊢
  have hl : lv_has ls 4 [(0, .long (p1)), (2, .long (p2))] := hl
  refine lv_lload_n hx hb dX11_times_0 rfl (lv_at hl 0 rfl) ?_
  refine lv_lload_n hx hb dX11_times_1 rfl (lv_at hl 1 rfl) ?_
  refine lv_lmul hx hb dX11_times_2 ?_
  refine lv_ldc2 hx hb (v := 16384) hown (hts (.constantLong RX11 57 (16384)) (by decide +kernel)) dX11_times_3 ?_
  refine k_Sl (va_runS (As := [.long (p1 * p2), .long (16384)]) (rest := []) ⟨hx, hb, hml, hown, hts⟩ (c_X11_down l (p1 * p2) 16384 (by decide)) (va_cwS 2 hts gX11_times_X11_down rfl rfl rfl (by decide +kernel) ⟨Nat.le_of_ble_eq_true rfl, Nat.le_of_ble_eq_true rfl⟩) gP0 rfl rfl hl.1 rfl (lv_room (Nat.le_of_ble_eq_true rfl)) dX11_times_6 ⟨Nat.le_of_ble_eq_true rfl, Nat.le_of_ble_eq_true rfl⟩) (fun r6 er6 => ?_)
  exact W.lret (v := r6) hx hb hr (fun t ht _ => ⟨r6, rfl, by subst er6; first | (simp only [q_X11_times]; done) | contradiction, ht⟩) (fun _ h => nomatch h) dX11_times_9

def q_X11_slopeOf  (p1 : Int32) : Int64 := (let r15 := q_X11_down (65536 * ((p1 - 80).toInt64)) 366; (let r18 := q_X11_sineOf r15; (let r21 := q_X11_times 4267 r18; r21)))
set_option maxHeartbeats 4000000 in
set_option maxRecDepth 100000 in
theorem c_X11_slopeOf (l : Launch) (p1 : Int32)  : Met l yX11_slopeOf wsX11_slopeOf ({ frames := 2, cells := 0, slots := 0, locals := 48 }) (va_Pc [.int (p1)] (fun _ => True)) (vp_Sl (fun r => r = q_X11_slopeOf p1)) 0 0 (fun _ => False) := by
  refine Met.ofW (cc := cX11_slopeOf) (maxL := 1) (ret := (some .long)) (by decide) rfl ?_
  intro p e s m args below meth c s₁ B hml hv
  obtain ⟨rfl, -⟩ := hv
  have hx := B.exec
  have hb := B.bytes
  have hr := B.returns
  have hts := atoms_spec (ws := wsX11_slopeOf) B.pre
  have hown : s.vm.findClass RX11 = some m.cls := findClass_of_methodNamed B.named
  have hlocks := B.notSynchronized
  have hl := lv_entry ([.int (p1)]) (n := 1) (Nat.le_of_ble_eq_true rfl)
  rw [lg_entry_eq]
  generalize (lg_sl ([.int (p1)]) ++ List.replicate (1 - (lg_sl ([.int (p1)])).length) Slot.unset).toArray = ls at hl ⊢
  have hl : lv_has ls 1 [(0, .int (p1))] := hl
  refine lv_ldc2 hx hb (v := 4267) hown (hts (.constantLong RX11 87 (4267)) (by decide +kernel)) dX11_slopeOf_0 ?_
  refine lv_ldc2 hx hb (v := 65536) hown (hts (.constantLong RX11 53 (65536)) (by decide +kernel)) dX11_slopeOf_3 ?_
  refine lv_iload_n hx hb dX11_slopeOf_6 rfl (lv_at hl 0 rfl) ?_
  refine lv_bipush (v := 80) hx hb dX11_slopeOf_7 (by decide) ?_
  refine lv_isub hx hb dX11_slopeOf_9 ?_
  refine lv_i2l (v := (p1 - 80).toInt64) hx hb dX11_slopeOf_10 rfl ?_
  refine lv_lmul hx hb dX11_slopeOf_11 ?_
  refine lv_ldc2 hx hb (v := 366) hown (hts (.constantLong RX11 74 (366)) (by decide +kernel)) dX11_slopeOf_12 ?_
  refine k_Sl (va_runS (As := [.long (65536 * ((p1 - 80).toInt64)), .long (366)]) (rest := [.long (4267)]) ⟨hx, hb, hml, hown, hts⟩ (c_X11_down l (65536 * ((p1 - 80).toInt64)) 366 (by decide)) (va_cwS 2 hts gX11_slopeOf_X11_down rfl rfl rfl (by decide +kernel) ⟨Nat.le_of_ble_eq_true rfl, Nat.le_of_ble_eq_true rfl⟩) gP0 rfl rfl hl.1 rfl (lv_room (Nat.le_of_ble_eq_true rfl)) dX11_slopeOf_15 ⟨Nat.le_of_ble_eq_true rfl, Nat.le_of_ble_eq_true rfl⟩) (fun r15 er15 => ?_)
  refine k_Sl (va_runS (As := [.long (r15)]) (rest := [.long (4267)]) ⟨hx, hb, hml, hown, hts⟩ (c_X11_sineOf l r15) (va_cwS 1 hts gX11_slopeOf_X11_sineOf rfl rfl rfl (by decide +kernel) ⟨Nat.le_of_ble_eq_true rfl, Nat.le_of_ble_eq_true rfl⟩) gP0 rfl rfl hl.1 rfl (lv_room (Nat.le_of_ble_eq_true rfl)) dX11_slopeOf_18 ⟨Nat.le_of_ble_eq_true rfl, Nat.le_of_ble_eq_true rfl⟩) (fun r18 er18 => ?_)
  refine k_Sl (va_runS (As := [.long (4267), .long (r18)]) (rest := []) ⟨hx, hb, hml, hown, hts⟩ (c_X11_times l 4267 r18) (va_cwS 2 hts gX11_slopeOf_X11_times rfl rfl rfl (by decide +kernel) ⟨Nat.le_of_ble_eq_true rfl, Nat.le_of_ble_eq_true rfl⟩) gP0 rfl rfl hl.1 rfl (lv_room (Nat.le_of_ble_eq_true rfl)) dX11_slopeOf_21 ⟨Nat.le_of_ble_eq_true rfl, Nat.le_of_ble_eq_true rfl⟩) (fun r21 er21 => ?_)
  exact W.lret (v := r21) hx hb hr (fun t ht _ => ⟨r21, rfl, by subst er21; subst er18; subst er15; first | (simp only [q_X11_slopeOf]; done) | contradiction, ht⟩) (fun _ h => nomatch h) dX11_slopeOf_24

def q_X11_isTime  (p1 : Int32) (p2 : Int32) : Int32 := (let r6 := q_X11_isIn (p1.toInt64) 0 365; (if r6 = 0 then 0 else (let r18 := q_X11_isIn (p2.toInt64) 0 1439; (if r18 = 0 then 0 else 1))))
set_option maxHeartbeats 4000000 in
set_option maxRecDepth 100000 in
theorem c_X11_isTime (l : Launch) (p1 : Int32) (p2 : Int32)  : Met l yX11_isTime wsX11_isTime ({ frames := 1, cells := 0, slots := 0, locals := 25 }) (va_Pc [.int (p1), .int (p2)] (fun _ => True)) (vp_Si (fun r => r = q_X11_isTime p1 p2)) 0 0 (fun _ => False) := by
  refine Met.ofW (cc := cX11_isTime) (maxL := 2) (ret := (some .boolean)) (by decide) rfl ?_
  intro p e s m args below meth c s₁ B hml hv
  obtain ⟨rfl, -⟩ := hv
  have hx := B.exec
  have hb := B.bytes
  have hr := B.returns
  have hts := atoms_spec (ws := wsX11_isTime) B.pre
  have hown : s.vm.findClass RX11 = some m.cls := findClass_of_methodNamed B.named
  have hlocks := B.notSynchronized
  have hl := lv_entry ([.int (p1), .int (p2)]) (n := 2) (Nat.le_of_ble_eq_true rfl)
  rw [lg_entry_eq]
  generalize (lg_sl ([.int (p1), .int (p2)]) ++ List.replicate (2 - (lg_sl ([.int (p1), .int (p2)])).length) Slot.unset).toArray = ls at hl ⊢
  have hl : lv_has ls 2 [(0, .int (p1)), (1, .int (p2))] := hl
  refine lv_iload_n hx hb dX11_isTime_0 rfl (lv_at hl 0 rfl) ?_
  refine lv_i2l (v := p1.toInt64) hx hb dX11_isTime_1 rfl ?_
  refine lv_lconst (v := 0) hx hb dX11_isTime_2 (by decide) ?_
  refine lv_ldc2 hx hb (v := 365) hown (hts (.constantLong RX11 83 (365)) (by decide +kernel)) dX11_isTime_3 ?_
  refine k_Si (va_runS (As := [.long (p1.toInt64), .long (0), .long (365)]) (rest := []) ⟨hx, hb, hml, hown, hts⟩ (c_X11_isIn l (p1.toInt64) 0 365) (va_cwS 3 hts gX11_isTime_X11_isIn rfl rfl rfl (by decide +kernel) ⟨Nat.le_of_ble_eq_true rfl, Nat.le_of_ble_eq_true rfl⟩) gP0 rfl rfl hl.1 rfl (lv_room (Nat.le_of_ble_eq_true rfl)) dX11_isTime_6 ⟨Nat.le_of_ble_eq_true rfl, Nat.le_of_ble_eq_true rfl⟩) (fun r6 er6 => ?_)
  refine lv_if_eq (tgt := 28) hx hb dX11_isTime_9 (by decide) (fun c9 => ?_) (fun c9 => ?_)
  · refine lv_iconst (v := 0) hx hb dX11_isTime_28 (by decide) ?_
    exact W.zret (v := 0) hx hb hr rfl (fun t ht _ => ⟨0, rfl, by subst er6; first | (simp only [q_X11_isTime, if_pos c9]; done) | contradiction, ht⟩) (fun _ h => nomatch h) dX11_isTime_29
  · refine lv_iload_n hx hb dX11_isTime_12 rfl (lv_at hl 1 rfl) ?_
    refine lv_i2l (v := p2.toInt64) hx hb dX11_isTime_13 rfl ?_
    refine lv_lconst (v := 0) hx hb dX11_isTime_14 (by decide) ?_
    refine lv_ldc2 hx hb (v := 1439) hown (hts (.constantLong RX11 85 (1439)) (by decide +kernel)) dX11_isTime_15 ?_
    refine k_Si (va_runS (As := [.long (p2.toInt64), .long (0), .long (1439)]) (rest := []) ⟨hx, hb, hml, hown, hts⟩ (c_X11_isIn l (p2.toInt64) 0 1439) (va_cwS 3 hts gX11_isTime_X11_isIn rfl rfl rfl (by decide +kernel) ⟨Nat.le_of_ble_eq_true rfl, Nat.le_of_ble_eq_true rfl⟩) gP0 rfl rfl hl.1 rfl (lv_room (Nat.le_of_ble_eq_true rfl)) dX11_isTime_18 ⟨Nat.le_of_ble_eq_true rfl, Nat.le_of_ble_eq_true rfl⟩) (fun r18 er18 => ?_)
    refine lv_if_eq (tgt := 28) hx hb dX11_isTime_21 (by decide) (fun c21 => ?_) (fun c21 => ?_)
    · refine lv_iconst (v := 0) hx hb dX11_isTime_28 (by decide) ?_
      exact W.zret (v := 0) hx hb hr rfl (fun t ht _ => ⟨0, rfl, by subst er18; subst er6; first | (simp only [q_X11_isTime, if_neg c9, if_pos c21]; done) | contradiction, ht⟩) (fun _ h => nomatch h) dX11_isTime_29
    · refine lv_iconst (v := 1) hx hb dX11_isTime_24 (by decide) ?_
      refine lv_goto (tgt := 29) hx hb dX11_isTime_25 (by decide) ?_
      exact W.zret (v := 1) hx hb hr rfl (fun t ht _ => ⟨1, rfl, by subst er18; subst er6; first | (simp only [q_X11_isTime, if_neg c9, if_neg c21]; done) | contradiction, ht⟩) (fun _ h => nomatch h) dX11_isTime_29
theorem qb_X11_isTime  (p1 : Int32) (p2 : Int32) : q_X11_isTime p1 p2 = 0 ∨ q_X11_isTime p1 p2 = 1 := by
  unfold q_X11_isTime
  repeat' (first | exact Or.inl rfl | exact Or.inr rfl | exact qb_X11_isIn _ _ _ | split | (simp only []; split))

def q_X11_isPlace  (p1 : Int32) : Int32 := (let r6 := q_X11_isIn (p1.toInt64) 0 39; r6)
set_option maxHeartbeats 4000000 in
set_option maxRecDepth 100000 in
theorem c_X11_isPlace (l : Launch) (p1 : Int32)  : Met l yX11_isPlace wsX11_isPlace ({ frames := 1, cells := 0, slots := 0, locals := 25 }) (va_Pc [.int (p1)] (fun _ => True)) (vp_Si (fun r => r = q_X11_isPlace p1)) 0 0 (fun _ => False) := by
  refine Met.ofW (cc := cX11_isPlace) (maxL := 1) (ret := (some .boolean)) (by decide) rfl ?_
  intro p e s m args below meth c s₁ B hml hv
  obtain ⟨rfl, -⟩ := hv
  have hx := B.exec
  have hb := B.bytes
  have hr := B.returns
  have hts := atoms_spec (ws := wsX11_isPlace) B.pre
  have hown : s.vm.findClass RX11 = some m.cls := findClass_of_methodNamed B.named
  have hlocks := B.notSynchronized
  have hl := lv_entry ([.int (p1)]) (n := 1) (Nat.le_of_ble_eq_true rfl)
  rw [lg_entry_eq]
  generalize (lg_sl ([.int (p1)]) ++ List.replicate (1 - (lg_sl ([.int (p1)])).length) Slot.unset).toArray = ls at hl ⊢
  have hl : lv_has ls 1 [(0, .int (p1))] := hl
  refine lv_iload_n hx hb dX11_isPlace_0 rfl (lv_at hl 0 rfl) ?_
  refine lv_i2l (v := p1.toInt64) hx hb dX11_isPlace_1 rfl ?_
  refine lv_lconst (v := 0) hx hb dX11_isPlace_2 (by decide) ?_
  refine lv_ldc2 hx hb (v := 39) hown (hts (.constantLong RX11 131 (39)) (by decide +kernel)) dX11_isPlace_3 ?_
  refine k_Si (va_runS (As := [.long (p1.toInt64), .long (0), .long (39)]) (rest := []) ⟨hx, hb, hml, hown, hts⟩ (c_X11_isIn l (p1.toInt64) 0 39) (va_cwS 3 hts gX11_isPlace_X11_isIn rfl rfl rfl (by decide +kernel) ⟨Nat.le_of_ble_eq_true rfl, Nat.le_of_ble_eq_true rfl⟩) gP0 rfl rfl hl.1 rfl (lv_room (Nat.le_of_ble_eq_true rfl)) dX11_isPlace_6 ⟨Nat.le_of_ble_eq_true rfl, Nat.le_of_ble_eq_true rfl⟩) (fun r6 er6 => ?_)
  exact W.zret (v := r6) hx hb hr (gB (by rw [er6]; exact qb_X11_isIn _ _ _)) (fun t ht _ => ⟨r6, rfl, by subst er6; first | (simp only [q_X11_isPlace]; done) | contradiction, ht⟩) (fun _ h => nomatch h) dX11_isPlace_9
theorem qb_X11_isPlace  (p1 : Int32) : q_X11_isPlace p1 = 0 ∨ q_X11_isPlace p1 = 1 := by
  unfold q_X11_isPlace
  repeat' (first | exact Or.inl rfl | exact Or.inr rfl | exact qb_X11_isIn _ _ _ | split | (simp only []; split))

def q_X11_isSpot  (p1 : Int32) (p2 : Int32) : Int32 := (let r8 := q_X11_isIn (p1.toInt64) (-10000) 10000; (if r8 = 0 then 0 else (let r22 := q_X11_isIn (p2.toInt64) (-10000) 10000; (if r22 = 0 then 0 else 1))))
set_option maxHeartbeats 4000000 in
set_option maxRecDepth 100000 in
theorem c_X11_isSpot (l : Launch) (p1 : Int32) (p2 : Int32)  : Met l yX11_isSpot wsX11_isSpot ({ frames := 1, cells := 0, slots := 0, locals := 25 }) (va_Pc [.int (p1), .int (p2)] (fun _ => True)) (vp_Si (fun r => r = q_X11_isSpot p1 p2)) 0 0 (fun _ => False) := by
  refine Met.ofW (cc := cX11_isSpot) (maxL := 2) (ret := (some .boolean)) (by decide) rfl ?_
  intro p e s m args below meth c s₁ B hml hv
  obtain ⟨rfl, -⟩ := hv
  have hx := B.exec
  have hb := B.bytes
  have hr := B.returns
  have hts := atoms_spec (ws := wsX11_isSpot) B.pre
  have hown : s.vm.findClass RX11 = some m.cls := findClass_of_methodNamed B.named
  have hlocks := B.notSynchronized
  have hl := lv_entry ([.int (p1), .int (p2)]) (n := 2) (Nat.le_of_ble_eq_true rfl)
  rw [lg_entry_eq]
  generalize (lg_sl ([.int (p1), .int (p2)]) ++ List.replicate (2 - (lg_sl ([.int (p1), .int (p2)])).length) Slot.unset).toArray = ls at hl ⊢
  have hl : lv_has ls 2 [(0, .int (p1)), (1, .int (p2))] := hl
  refine lv_iload_n hx hb dX11_isSpot_0 rfl (lv_at hl 0 rfl) ?_
  refine lv_i2l (v := p1.toInt64) hx hb dX11_isSpot_1 rfl ?_
  refine lv_ldc2 hx hb (v := (-10000)) hown (hts (.constantLong RX11 133 (-10000)) (by decide +kernel)) dX11_isSpot_2 ?_
  refine lv_ldc2 hx hb (v := 10000) hown (hts (.constantLong RX11 135 (10000)) (by decide +kernel)) dX11_isSpot_5 ?_
  refine k_Si (va_runS (As := [.long (p1.toInt64), .long ((-10000)), .long (10000)]) (rest := []) ⟨hx, hb, hml, hown, hts⟩ (c_X11_isIn l (p1.toInt64) (-10000) 10000) (va_cwS 3 hts gX11_isSpot_X11_isIn rfl rfl rfl (by decide +kernel) ⟨Nat.le_of_ble_eq_true rfl, Nat.le_of_ble_eq_true rfl⟩) gP0 rfl rfl hl.1 rfl (lv_room (Nat.le_of_ble_eq_true rfl)) dX11_isSpot_8 ⟨Nat.le_of_ble_eq_true rfl, Nat.le_of_ble_eq_true rfl⟩) (fun r8 er8 => ?_)
  refine lv_if_eq (tgt := 32) hx hb dX11_isSpot_11 (by decide) (fun c11 => ?_) (fun c11 => ?_)
  · refine lv_iconst (v := 0) hx hb dX11_isSpot_32 (by decide) ?_
    exact W.zret (v := 0) hx hb hr rfl (fun t ht _ => ⟨0, rfl, by subst er8; first | (simp only [q_X11_isSpot, if_pos c11]; done) | contradiction, ht⟩) (fun _ h => nomatch h) dX11_isSpot_33
  · refine lv_iload_n hx hb dX11_isSpot_14 rfl (lv_at hl 1 rfl) ?_
    refine lv_i2l (v := p2.toInt64) hx hb dX11_isSpot_15 rfl ?_
    refine lv_ldc2 hx hb (v := (-10000)) hown (hts (.constantLong RX11 133 (-10000)) (by decide +kernel)) dX11_isSpot_16 ?_
    refine lv_ldc2 hx hb (v := 10000) hown (hts (.constantLong RX11 135 (10000)) (by decide +kernel)) dX11_isSpot_19 ?_
    refine k_Si (va_runS (As := [.long (p2.toInt64), .long ((-10000)), .long (10000)]) (rest := []) ⟨hx, hb, hml, hown, hts⟩ (c_X11_isIn l (p2.toInt64) (-10000) 10000) (va_cwS 3 hts gX11_isSpot_X11_isIn rfl rfl rfl (by decide +kernel) ⟨Nat.le_of_ble_eq_true rfl, Nat.le_of_ble_eq_true rfl⟩) gP0 rfl rfl hl.1 rfl (lv_room (Nat.le_of_ble_eq_true rfl)) dX11_isSpot_22 ⟨Nat.le_of_ble_eq_true rfl, Nat.le_of_ble_eq_true rfl⟩) (fun r22 er22 => ?_)
    refine lv_if_eq (tgt := 32) hx hb dX11_isSpot_25 (by decide) (fun c25 => ?_) (fun c25 => ?_)
    · refine lv_iconst (v := 0) hx hb dX11_isSpot_32 (by decide) ?_
      exact W.zret (v := 0) hx hb hr rfl (fun t ht _ => ⟨0, rfl, by subst er22; subst er8; first | (simp only [q_X11_isSpot, if_neg c11, if_pos c25]; done) | contradiction, ht⟩) (fun _ h => nomatch h) dX11_isSpot_33
    · refine lv_iconst (v := 1) hx hb dX11_isSpot_28 (by decide) ?_
      refine lv_goto (tgt := 33) hx hb dX11_isSpot_29 (by decide) ?_
      exact W.zret (v := 1) hx hb hr rfl (fun t ht _ => ⟨1, rfl, by subst er22; subst er8; first | (simp only [q_X11_isSpot, if_neg c11, if_neg c25]; done) | contradiction, ht⟩) (fun _ h => nomatch h) dX11_isSpot_33
theorem qb_X11_isSpot  (p1 : Int32) (p2 : Int32) : q_X11_isSpot p1 p2 = 0 ∨ q_X11_isSpot p1 p2 = 1 := by
  unfold q_X11_isSpot
  repeat' (first | exact Or.inl rfl | exact Or.inr rfl | exact qb_X11_isIn _ _ _ | split | (simp only []; split))

def q_X11_heightOf_b7  (p1 : Int64) : Nat → Int64 → Int64 → Int64
  | 0, v2, v4 => 0
  | n + 1, v2, v4 => (if v4 ≤ 0 then v2 else (if 16384 < (v2 + v4) then (let x48 := v4 / 2; q_X11_heightOf_b7 p1 n v2 x48) else (let r29 := q_X11_sineOf (v2 + v4); (if p1 < r29 then (let x48 := v4 / 2; q_X11_heightOf_b7 p1 n v2 x48) else (let x41 := v2 + v4; (let x48 := v4 / 2; q_X11_heightOf_b7 p1 n x41 x48))))))
def q_X11_heightOf  (p1 : Int64) : Int64 := q_X11_heightOf_b7 p1 17 0 16384
set_option maxHeartbeats 4000000 in
set_option maxRecDepth 100000 in
theorem c_X11_heightOf (l : Launch) (p1 : Int64)  : Met l yX11_heightOf wsX11_heightOf ({ frames := 1, cells := 0, slots := 0, locals := 30 }) (va_Pc [.long (p1)] (fun _ => True)) (vp_Sl (fun r => r = q_X11_heightOf p1)) 0 0 (fun _ => False) := by
  refine Met.ofW (cc := cX11_heightOf) (maxL := 6) (ret := (some .long)) (by decide) rfl ?_
  intro p e s m args below meth c s₁ B hml hv
  obtain ⟨rfl, -⟩ := hv
  have hx := B.exec
  have hb := B.bytes
  have hr := B.returns
  have hts := atoms_spec (ws := wsX11_heightOf) B.pre
  have hown : s.vm.findClass RX11 = some m.cls := findClass_of_methodNamed B.named
  have hlocks := B.notSynchronized
  have hl := lv_entry ([.long (p1)]) (n := 6) (Nat.le_of_ble_eq_true rfl)
  rw [lg_entry_eq]
  generalize (lg_sl ([.long (p1)]) ++ List.replicate (6 - (lg_sl ([.long (p1)])).length) Slot.unset).toArray = ls at hl ⊢
  have hl : lv_has ls 6 [(0, .long (p1))] := hl
  have L7 : ∀ n : Nat, ∀ (v2 : Int64) (v4 : Int64) (ls : Array Slot), (0 ≤ v4.toInt ∧ 4 * v4.toInt < 2 ^ n ∧ 0 < n) → q_X11_heightOf p1 = q_X11_heightOf_b7 p1 n v2 v4 → lv_has ls 6 [(0, .long (p1)), (2, .long (v2)), (4, .long (v4))] → W p l e (headSpec wsX11_heightOf ({ frames := 1, cells := 0, slots := 0, locals := 30 })).room s m ([.long (p1)] : List Value).toArray below meth c s.heap [] 0 0 (MQ below (vp_Sl (fun r => r = q_X11_heightOf p1)) ([.long (p1)] : List Value).toArray s 0 0 (fun _ => False)) (F0 m 7 ls []) := by
    intro n
    induction n with
    | zero =>
      intro v2 v4 ls hi hq hl
      exact absurd hi.2.2 (Nat.lt_irrefl 0)
    | succ n ih =>
      intro v2 v4 ls hi hq hl
      refine lv_lload hx hb dX11_heightOf_7 (lv_at hl 2 rfl) ?_
      refine lv_lconst (v := 0) hx hb dX11_heightOf_9 (by decide) ?_
      refine k_lle (tgt := 53) hx hb dX11_heightOf_10 dX11_heightOf_11 (by decide) (fun c10 => ?_) (fun c10 => ?_)
      · refine lv_lload_n hx hb dX11_heightOf_53 rfl (lv_at hl 1 rfl) ?_
        exact W.lret (v := v2) hx hb hr (fun t ht _ => ⟨v2, rfl, by rw [hq]; first | (simp only [q_X11_heightOf_b7, if_pos c10]; done) | contradiction, ht⟩) (fun _ h => nomatch h) dX11_heightOf_54
      · refine lv_lload_n hx hb dX11_heightOf_14 rfl (lv_at hl 1 rfl) ?_
        refine lv_lload hx hb dX11_heightOf_15 (lv_at hl 2 rfl) ?_
        refine lv_ladd hx hb dX11_heightOf_17 ?_
        refine lv_ldc2 hx hb (v := 16384) hown (hts (.constantLong RX11 57 (16384)) (by decide +kernel)) dX11_heightOf_18 ?_
        refine k_lgt (tgt := 42) hx hb dX11_heightOf_21 dX11_heightOf_22 (by decide) (fun c21 => ?_) (fun c21 => ?_)
        · refine lv_lload hx hb dX11_heightOf_42 (lv_at hl 2 rfl) ?_
          refine lv_ldc2 hx hb (v := 2) hown (hts (.constantLong RX11 184 (2)) (by decide +kernel)) dX11_heightOf_44 ?_
          refine lv_ldiv hx hb dX11_heightOf_47 (by decide) ?_
          refine lv_topl (fun x48 ex48 => ?_)
          refine lv_lstore (lv' := [(4, .long (x48)), (0, .long (p1)), (2, .long (v2))]) hx hb dX11_heightOf_48 hl (by decide) rfl (fun ls hl => ?_)
          refine lv_goto (tgt := 7) hx hb dX11_heightOf_50 (by decide) ?_
          exact ih _ _ _ (by exact ht_step hi c10 ex48) (by rw [hq]; subst ex48; first | (simp only [q_X11_heightOf_b7, if_neg c10, if_pos c21]; done) | contradiction) (lv_sub hl [1, 2, 0] rfl)
        · refine lv_lload_n hx hb dX11_heightOf_25 rfl (lv_at hl 1 rfl) ?_
          refine lv_lload hx hb dX11_heightOf_26 (lv_at hl 2 rfl) ?_
          refine lv_ladd hx hb dX11_heightOf_28 ?_
          refine k_Sl (va_runS (As := [.long (v2 + v4)]) (rest := []) ⟨hx, hb, hml, hown, hts⟩ (c_X11_sineOf l (v2 + v4)) (va_cwS 1 hts gX11_heightOf_X11_sineOf rfl rfl rfl (by decide +kernel) ⟨Nat.le_of_ble_eq_true rfl, Nat.le_of_ble_eq_true rfl⟩) gP0 rfl rfl hl.1 rfl (lv_room (Nat.le_of_ble_eq_true rfl)) dX11_heightOf_29 ⟨Nat.le_of_ble_eq_true rfl, Nat.le_of_ble_eq_true rfl⟩) (fun r29 er29 => ?_)
          refine lv_lload_n hx hb dX11_heightOf_32 rfl (lv_at hl 0 rfl) ?_
          refine k_lgt (tgt := 42) hx hb dX11_heightOf_33 dX11_heightOf_34 (by decide) (fun c33 => ?_) (fun c33 => ?_)
          · refine lv_lload hx hb dX11_heightOf_42 (lv_at hl 2 rfl) ?_
            refine lv_ldc2 hx hb (v := 2) hown (hts (.constantLong RX11 184 (2)) (by decide +kernel)) dX11_heightOf_44 ?_
            refine lv_ldiv hx hb dX11_heightOf_47 (by decide) ?_
            refine lv_topl (fun x48 ex48 => ?_)
            refine lv_lstore (lv' := [(4, .long (x48)), (0, .long (p1)), (2, .long (v2))]) hx hb dX11_heightOf_48 hl (by decide) rfl (fun ls hl => ?_)
            refine lv_goto (tgt := 7) hx hb dX11_heightOf_50 (by decide) ?_
            exact ih _ _ _ (by exact ht_step hi c10 ex48) (by rw [hq]; subst ex48; subst er29; first | (simp only [q_X11_heightOf_b7, if_neg c10, if_neg c21, if_pos c33]; done) | contradiction) (lv_sub hl [1, 2, 0] rfl)
          · refine lv_lload_n hx hb dX11_heightOf_37 rfl (lv_at hl 1 rfl) ?_
            refine lv_lload hx hb dX11_heightOf_38 (lv_at hl 2 rfl) ?_
            refine lv_ladd hx hb dX11_heightOf_40 ?_
            refine lv_topl (fun x41 ex41 => ?_)
            refine lv_lstore_n (lv' := [(2, .long (x41)), (0, .long (p1)), (4, .long (v4))]) hx hb dX11_heightOf_41 rfl hl (by decide) rfl (fun ls hl => ?_)
            refine lv_lload hx hb dX11_heightOf_42 (lv_at hl 2 rfl) ?_
            refine lv_ldc2 hx hb (v := 2) hown (hts (.constantLong RX11 184 (2)) (by decide +kernel)) dX11_heightOf_44 ?_
            refine lv_ldiv hx hb dX11_heightOf_47 (by decide) ?_
            refine lv_topl (fun x48 ex48 => ?_)
            refine lv_lstore (lv' := [(4, .long (x48)), (2, .long (x41)), (0, .long (p1))]) hx hb dX11_heightOf_48 hl (by decide) rfl (fun ls hl => ?_)
            refine lv_goto (tgt := 7) hx hb dX11_heightOf_50 (by decide) ?_
            exact ih _ _ _ (by exact ht_step hi c10 ex48) (by rw [hq]; subst ex48; subst ex41; subst er29; first | (simp only [q_X11_heightOf_b7, if_neg c10, if_neg c21, if_neg c33]; done) | contradiction) (lv_sub hl [2, 1, 0] rfl)
  refine lv_lconst (v := 0) hx hb dX11_heightOf_0 (by decide) ?_
  refine lv_lstore_n (lv' := [(2, .long (0)), (0, .long (p1))]) hx hb dX11_heightOf_1 rfl hl (by decide) rfl (fun ls hl => ?_)
  refine lv_ldc2 hx hb (v := 16384) hown (hts (.constantLong RX11 57 (16384)) (by decide +kernel)) dX11_heightOf_2 ?_
  refine lv_lstore (lv' := [(4, .long (16384)), (2, .long (0)), (0, .long (p1))]) hx hb dX11_heightOf_5 hl (by decide) rfl (fun ls hl => ?_)
  exact L7 17 _ _ _ (by decide) (by first | (simp only [q_X11_heightOf]; done) | contradiction) (lv_sub hl [2, 1, 0] rfl)
