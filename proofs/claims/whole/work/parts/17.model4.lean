def q_X11_keep_b97 (M : gSm) (p1 : Int32) : Nat → Int32 → gSm → gSm
  | 0, v2, Z => Z
  | n + 1, v2, Z => (if 7 ≤ v2 then pM Z 0 3 ((Z.1 0 3) + 1) else (let x128 := v2 + 1; q_X11_keep_b97 M p1 n x128 (pM Z 3 (((7 * (Z.1 0 3)) + v2).toNatClampNeg) (Z.1 1 (((7 * p1) + v2).toNatClampNeg)))))
def q_X11_keep_b85 (M : gSm) (p1 : Int32) (Z : gSm) : gSm := q_X11_keep_b97 M p1 8 0 (pM Z 2 ((Z.1 0 3).toNatClampNeg) p1)
def q_X11_keep_b33 (M : gSm) (p1 : Int32) (v2 : Int32) : Nat → Int32 → gSm → gSm
  | 0, v3, Z => Z
  | n + 1, v3, Z => (if 7 ≤ v3 then Z else (let x63 := v3 + 1; q_X11_keep_b33 M p1 v2 n x63 (pM Z 3 (((7 * (v2 - 1)) + v3).toNatClampNeg) (Z.1 3 (((7 * v2) + v3).toNatClampNeg)))))
def q_X11_keep_b11 (M : gSm) (p1 : Int32) : Nat → Int32 → gSm → gSm
  | 0, v2, Z => Z
  | n + 1, v2, Z => (if 16 ≤ v2 then q_X11_keep_b85 M p1 (pM Z 0 3 ((Z.1 0 3) - 1)) else (let Z33 := q_X11_keep_b33 M p1 v2 8 0 (pM Z 2 ((v2 - 1).toNatClampNeg) (Z.1 2 (v2.toNatClampNeg))); (let x69 := v2 + 1; q_X11_keep_b11 M p1 n x69 Z33)))
def q_X11_keep (M : gSm) (p1 : Int32) : gSm := (if (M.1 0 3) = 16 then q_X11_keep_b11 M p1 16 1 M else q_X11_keep_b85 M p1 M)
theorem kp_in (M : gSm) (p1 v2 : Int32) : ∀ (n : Nat) (v3 : Int32) (Z : gSm), (q_X11_keep_b33 M p1 v2 n v3 Z).1 0 3 = Z.1 0 3
  | 0, _, _ => rfl
  | n + 1, v3, Z => by
    unfold q_X11_keep_b33
    split
    · rfl
    · exact (kp_in M p1 v2 n _ _).trans rfl
set_option maxHeartbeats 4000000 in
set_option maxRecDepth 100000 in
theorem c_X11_keep (l : Launch) (E : gEE) (M : gSm) (S : gSc) (p1 : Int32) (hp : isP p1) (hk0 : 0 ≤ (M.1 0 3).toInt) (hk : (M.1 0 3).toInt ≤ 16) : Met l yX11_keep wsX11_keep ({ frames := 0, cells := 0, slots := 0, locals := 0 }) (va_Pc [.ref (eM E 0), .int (p1)] (gP E M S)) (va_Qv (fun u : gSm => u = q_X11_keep M p1) (fun u t => gW E u S t.heap) (eA E)) 0 0 (eA E) := by
  refine Met.ofW (cc := cX11_keep) (maxL := 4) (ret := none) (by decide) rfl ?_
  intro p e s m args below meth c s₁ B hml hv
  obtain ⟨rfl, hE, hW⟩ := hv
  have hx := B.exec
  have hb := B.bytes
  have hr := B.returns
  have hts := atoms_spec (ws := wsX11_keep) B.pre
  have hown : s.vm.findClass RX11 = some m.cls := findClass_of_methodNamed B.named
  have hlocks := B.notSynchronized
  have hinX11 : ∀ w ∈ wsX110, w ∈ wsX11_keep := by decide +kernel
  have hS : va_S (eA E) s.heap s.heap [] := va_S.rf
  have hl := lv_entry ([.ref (eM E 0), .int (p1)]) (n := 4) (Nat.le_of_ble_eq_true rfl)
  rw [lg_entry_eq]
  generalize (lg_sl ([.ref (eM E 0), .int (p1)]) ++ List.replicate (4 - (lg_sl ([.ref (eM E 0), .int (p1)])).length) Slot.unset).toArray = ls at hl ⊢
  have hl : lv_has ls 4 [(0, .ref (eM E 0)), (1, .int (p1))] := hl
  have hS : ∃ (H : Heap) (locs : List Loc), H = s.heap ∧ locs = [] ∧ gW E M S H ∧ va_S (eA E) s.heap H locs := ⟨_, _, rfl, rfl, hW, hS⟩
  clear hW
  obtain ⟨H, locs, eH, el, hW, hS⟩ := hS
  rw [← eH, ← el]
  clear eH el
  have L97 : ∀ n : Nat, ∀ (v2 : Int32) (Z : gSm) (H : Heap) (locs : List Loc) (ls : Array Slot), (gL 7 n v2 ∧ 0 ≤ (Z.1 0 3).toInt ∧ (Z.1 0 3).toInt < 16) → q_X11_keep M p1 = q_X11_keep_b97 M p1 n v2 Z → gW E Z S H → va_S (eA E) s.heap H locs → lv_has ls 4 [(0, .ref (eM E 0)), (1, .int (p1)), (2, .int (v2))] → W p l e (headSpec wsX11_keep ({ frames := 0, cells := 0, slots := 0, locals := 0 })).room s m ([.ref (eM E 0), .int (p1)] : List Value).toArray below meth c H locs 0 0 (MQ below (va_Qv (fun u : gSm => u = q_X11_keep M p1) (fun u t => gW E u S t.heap) (eA E)) ([.ref (eM E 0), .int (p1)] : List Value).toArray s 0 0 (eA E)) (F0 m 97 ls []) := by
    intro n
    induction n with
    | zero =>
      intro v2 Z H locs ls hi hq hW hS hl
      exact hi.1.z
    | succ n ih =>
      intro v2 Z H locs ls hi hq hW hS hl
      refine lv_iload_n hx hb dX11_keep_97 rfl (lv_at hl 2 rfl) ?_
      refine lv_bipush (v := 7) hx hb dX11_keep_98 (by decide) ?_
      refine lv_icmp_ge (tgt := 134) hx hb dX11_keep_100 (by decide) (fun c100 => ?_) (fun c100 => ?_)
      · refine lv_aload_n hx hb dX11_keep_134 rfl (lv_at hl 0 rfl) ?_
        refine lv_dup hx hb dX11_keep_135 rfl ?_
        refine va_get (D := eD E) (cl := vwCl) (tys := eT E) (ci := 10) (C := RX11) (T := TX11) (N := 23) (v := .int (Z.1 0 3)) hx hb hts hinX11 hown hE.1 hW.1 0 rfl rfl 3 (by decide) (hts (.fieldLink RX11 46 "DialGardenModel" "kept" "I") (by decide +kernel)) (fun _ h9 => h9) rfl dX11_keep_136 ?_
        refine lv_iconst (v := 1) hx hb dX11_keep_139 (by decide) ?_
        refine lv_iadd hx hb dX11_keep_140 ?_
        refine va_put (D := eD E) (cl := vwCl) (tys := eT E) (A := eA E) (ci := 10) (C := RX11) (T := TX11) (N := 23) (v := .int ((Z.1 0 3) + 1)) (ty := .int) hx hb hts hinX11 tyX11 tyX11_ok nmX11 hown hE.1 hW.1 hW.2 hS 0 rfl rfl 3 (by decide) (hts (.fieldLink RX11 46 "DialGardenModel" "kept" "I") (by decide +kernel)) (fun _ h9 => h9) rfl (by decide +kernel) rfl rfl (Nat.le_of_ble_eq_true rfl) dX11_keep_141 (fun H locs hP hD hS => ?_)
        have hW : gW E (pM Z 0 3 ((Z.1 0 3) + 1)) S H := gW.of (uM_0_3 E Z S ((Z.1 0 3) + 1)) hP hD
        exact W.vret hx hb hr (fun t ht _ => ⟨⟨pM Z 0 3 ((Z.1 0 3) + 1), rfl, by rw [hq]; first | (simp only [q_X11_keep_b97, if_pos c100]; done) | contradiction, by dsimp only; rw [ht]; exact hW⟩, hS.F ht⟩) hS.2.2 dX11_keep_144
      · refine lv_aload_n hx hb dX11_keep_103 rfl (lv_at hl 0 rfl) ?_
        refine va_get (D := eD E) (cl := vwCl) (tys := eT E) (ci := 10) (C := RX11) (T := TX11) (N := 23) (v := .ref (eM E 3)) hx hb hts hinX11 hown hE.1 hW.1 0 rfl rfl 2 (by decide) (hts (.fieldLink RX11 16 "DialGardenModel" "keptRow" "[I") (by decide +kernel)) (fun _ h9 => h9) rfl dX11_keep_104 ?_
        refine lv_bipush (v := 7) hx hb dX11_keep_107 (by decide) ?_
        refine lv_aload_n hx hb dX11_keep_109 rfl (lv_at hl 0 rfl) ?_
        refine va_get (D := eD E) (cl := vwCl) (tys := eT E) (ci := 10) (C := RX11) (T := TX11) (N := 23) (v := .int (Z.1 0 3)) hx hb hts hinX11 hown hE.1 hW.1 0 rfl rfl 3 (by decide) (hts (.fieldLink RX11 46 "DialGardenModel" "kept" "I") (by decide +kernel)) (fun _ h9 => h9) rfl dX11_keep_110 ?_
        refine lv_imul hx hb dX11_keep_113 ?_
        refine lv_iload_n hx hb dX11_keep_114 rfl (lv_at hl 2 rfl) ?_
        refine lv_iadd hx hb dX11_keep_115 ?_
        refine lv_aload_n hx hb dX11_keep_116 rfl (lv_at hl 0 rfl) ?_
        refine va_get (D := eD E) (cl := vwCl) (tys := eT E) (ci := 10) (C := RX11) (T := TX11) (N := 23) (v := .ref (eM E 1)) hx hb hts hinX11 hown hE.1 hW.1 0 rfl rfl 0 (by decide) (hts (.fieldLink RX11 7 "DialGardenModel" "garden" "[I") (by decide +kernel)) (fun _ h9 => h9) rfl dX11_keep_117 ?_
        refine lv_bipush (v := 7) hx hb dX11_keep_120 (by decide) ?_
        refine lv_iload_n hx hb dX11_keep_122 rfl (lv_at hl 1 rfl) ?_
        refine lv_imul hx hb dX11_keep_123 ?_
        refine lv_iload_n hx hb dX11_keep_124 rfl (lv_at hl 2 rfl) ?_
        refine lv_iadd hx hb dX11_keep_125 ?_
        refine va_iald (D := eD E) (cl := vwCl) (tys := eT E) (f := Z.1 1) hx hb hE.1 hW.1 1 0 rfl rfl (gx hp (hi.1.lt c100 (by decide))) dX11_keep_126 ?_
        refine va_iast (D := eD E) (cl := vwCl) (tys := eT E) (A := eA E) (f := Z.1 3) (x := Z.1 1 (((7 * p1) + v2).toNatClampNeg)) hx hb hE.1 hW.1 hW.2 hS 3 0 rfl rfl (kp_t hi.2 (hi.1.lt c100 (by decide))) dX11_keep_127 (fun H locs hP hD hS => ?_)
        have hW : gW E (pM Z 3 (((7 * (Z.1 0 3)) + v2).toNatClampNeg) (Z.1 1 (((7 * p1) + v2).toNatClampNeg))) S H := gW.of (tM_I3 E Z S (upd (Z.1 3) (((7 * (Z.1 0 3)) + v2).toNatClampNeg) (Z.1 1 (((7 * p1) + v2).toNatClampNeg)))) hP hD
        obtain ⟨x128, ex128⟩ : ∃ y : Int32, y = v2 + 1 := ⟨_, rfl⟩
        refine lv_iinc (v := x128) (lv' := [(2, .int (x128)), (0, .ref (eM E 0)), (1, .int (p1))]) hx hb dX11_keep_128 hl (k := 2) rfl (by rw [ex128]; rfl) (by decide) rfl (fun ls hl => ?_)
        refine lv_goto (tgt := 97) hx hb dX11_keep_131 (by decide) ?_
        exact ih _ _ _ _ _ (by exact ⟨hi.1.st c100 (by decide) ex128, hi.2⟩) (by rw [hq]; subst ex128; first | (simp only [q_X11_keep_b97, if_neg c100]; done) | contradiction) hW hS (lv_sub hl [1, 2, 0] rfl)
  have J85 : ∀ (Z : gSm) (H : Heap) (locs : List Loc) (ls : Array Slot), (0 ≤ (Z.1 0 3).toInt ∧ (Z.1 0 3).toInt < 16) → q_X11_keep M p1 = q_X11_keep_b85 M p1 Z → gW E Z S H → va_S (eA E) s.heap H locs → lv_has ls 4 [(0, .ref (eM E 0)), (1, .int (p1))] → W p l e (headSpec wsX11_keep ({ frames := 0, cells := 0, slots := 0, locals := 0 })).room s m ([.ref (eM E 0), .int (p1)] : List Value).toArray below meth c H locs 0 0 (MQ below (va_Qv (fun u : gSm => u = q_X11_keep M p1) (fun u t => gW E u S t.heap) (eA E)) ([.ref (eM E 0), .int (p1)] : List Value).toArray s 0 0 (eA E)) (F0 m 85 ls []) := by
    intro Z H locs ls hi hq hW hS hl
    refine lv_aload_n hx hb dX11_keep_85 rfl (lv_at hl 0 rfl) ?_
    refine va_get (D := eD E) (cl := vwCl) (tys := eT E) (ci := 10) (C := RX11) (T := TX11) (N := 23) (v := .ref (eM E 2)) hx hb hts hinX11 hown hE.1 hW.1 0 rfl rfl 1 (by decide) (hts (.fieldLink RX11 13 "DialGardenModel" "keptPlace" "[I") (by decide +kernel)) (fun _ h9 => h9) rfl dX11_keep_86 ?_
    refine lv_aload_n hx hb dX11_keep_89 rfl (lv_at hl 0 rfl) ?_
    refine va_get (D := eD E) (cl := vwCl) (tys := eT E) (ci := 10) (C := RX11) (T := TX11) (N := 23) (v := .int (Z.1 0 3)) hx hb hts hinX11 hown hE.1 hW.1 0 rfl rfl 3 (by decide) (hts (.fieldLink RX11 46 "DialGardenModel" "kept" "I") (by decide +kernel)) (fun _ h9 => h9) rfl dX11_keep_90 ?_
    refine lv_iload_n hx hb dX11_keep_93 rfl (lv_at hl 1 rfl) ?_
    refine va_iast (D := eD E) (cl := vwCl) (tys := eT E) (A := eA E) (f := Z.1 2) (x := p1) hx hb hE.1 hW.1 hW.2 hS 2 0 rfl rfl (vx hi.1 hi.2) dX11_keep_94 (fun H locs hP hD hS => ?_)
    have hW : gW E (pM Z 2 ((Z.1 0 3).toNatClampNeg) p1) S H := gW.of (tM_I2 E Z S (upd (Z.1 2) ((Z.1 0 3).toNatClampNeg) p1)) hP hD
    refine lv_iconst (v := 0) hx hb dX11_keep_95 (by decide) ?_
    refine lv_istore_n (lv' := [(2, .int (0)), (0, .ref (eM E 0)), (1, .int (p1))]) hx hb dX11_keep_96 rfl hl (by decide) rfl (fun ls hl => ?_)
    exact L97 8 _ _ _ _ _ (by exact ⟨gL.i 7, hi⟩) (by rw [hq]; first | (simp only [q_X11_keep_b85]; done) | contradiction) hW hS (lv_sub hl [1, 2, 0] rfl)
  have L11 : ∀ n : Nat, ∀ (v2 : Int32) (Z : gSm) (H : Heap) (locs : List Loc) (ls : Array Slot), ((1 ≤ v2.toInt ∧ v2.toInt ≤ 16 ∧ 16 < v2.toInt + n) ∧ Z.1 0 3 = 16) → q_X11_keep M p1 = q_X11_keep_b11 M p1 n v2 Z → gW E Z S H → va_S (eA E) s.heap H locs → lv_has ls 4 [(0, .ref (eM E 0)), (1, .int (p1)), (2, .int (v2))] → W p l e (headSpec wsX11_keep ({ frames := 0, cells := 0, slots := 0, locals := 0 })).room s m ([.ref (eM E 0), .int (p1)] : List Value).toArray below meth c H locs 0 0 (MQ below (va_Qv (fun u : gSm => u = q_X11_keep M p1) (fun u t => gW E u S t.heap) (eA E)) ([.ref (eM E 0), .int (p1)] : List Value).toArray s 0 0 (eA E)) (F0 m 11 ls []) := by
    intro n
    induction n with
    | zero =>
      intro v2 Z H locs ls hi hq hW hS hl
      exact absurd hi.1.2.2 (by omega)
    | succ n ih =>
      intro v2 Z H locs ls hi hq hW hS hl
      have L33 : ∀ (n : Nat) (v3 : Int32) (Z : gSm) (H : Heap) (locs : List Loc) (ls : Array Slot), (gL 7 n v3 ∧ 1 ≤ v2.toInt ∧ v2.toInt < 16) → gW E Z S H → va_S (eA E) s.heap H locs → lv_has ls 4 [(0, .ref (eM E 0)), (1, .int (p1)), (2, .int (v2)), (3, .int (v3))] → (∀ (Z9 : gSm) (H : Heap) (locs : List Loc) (ls : Array Slot), Z9 = q_X11_keep_b33 M p1 v2 n v3 Z → gW E Z9 S H → va_S (eA E) s.heap H locs → lv_has ls 4 [(0, .ref (eM E 0)), (1, .int (p1)), (2, .int (v2))] → W p l e (headSpec wsX11_keep ({ frames := 0, cells := 0, slots := 0, locals := 0 })).room s m ([.ref (eM E 0), .int (p1)] : List Value).toArray below meth c H locs 0 0 (MQ below (va_Qv (fun u : gSm => u = q_X11_keep M p1) (fun u t => gW E u S t.heap) (eA E)) ([.ref (eM E 0), .int (p1)] : List Value).toArray s 0 0 (eA E)) (F0 m 69 ls [])) → W p l e (headSpec wsX11_keep ({ frames := 0, cells := 0, slots := 0, locals := 0 })).room s m ([.ref (eM E 0), .int (p1)] : List Value).toArray below meth c H locs 0 0 (MQ below (va_Qv (fun u : gSm => u = q_X11_keep M p1) (fun u t => gW E u S t.heap) (eA E)) ([.ref (eM E 0), .int (p1)] : List Value).toArray s 0 0 (eA E)) (F0 m 33 ls []) := by
        intro n
        induction n with
        | zero =>
          intro v3 Z H locs ls hi hW hS hl kx
          exact hi.1.z
        | succ n ih =>
          intro v3 Z H locs ls hi hW hS hl kx
          refine lv_iload_n hx hb dX11_keep_33 rfl (lv_at hl 3 rfl) ?_
          refine lv_bipush (v := 7) hx hb dX11_keep_34 (by decide) ?_
          refine lv_icmp_ge (tgt := 69) hx hb dX11_keep_36 (by decide) (fun c36 => ?_) (fun c36 => ?_)
          · exact kx _ _ _ _ (by simp only [q_X11_keep_b33, if_pos c36]) hW hS (lv_sub hl [0, 1, 2] rfl)
          · refine lv_aload_n hx hb dX11_keep_39 rfl (lv_at hl 0 rfl) ?_
            refine va_get (D := eD E) (cl := vwCl) (tys := eT E) (ci := 10) (C := RX11) (T := TX11) (N := 23) (v := .ref (eM E 3)) hx hb hts hinX11 hown hE.1 hW.1 0 rfl rfl 2 (by decide) (hts (.fieldLink RX11 16 "DialGardenModel" "keptRow" "[I") (by decide +kernel)) (fun _ h9 => h9) rfl dX11_keep_40 ?_
            refine lv_bipush (v := 7) hx hb dX11_keep_43 (by decide) ?_
            refine lv_iload_n hx hb dX11_keep_45 rfl (lv_at hl 2 rfl) ?_
            refine lv_iconst (v := 1) hx hb dX11_keep_46 (by decide) ?_
            refine lv_isub hx hb dX11_keep_47 ?_
            refine lv_imul hx hb dX11_keep_48 ?_
            refine lv_iload_n hx hb dX11_keep_49 rfl (lv_at hl 3 rfl) ?_
            refine lv_iadd hx hb dX11_keep_50 ?_
            refine lv_aload_n hx hb dX11_keep_51 rfl (lv_at hl 0 rfl) ?_
            refine va_get (D := eD E) (cl := vwCl) (tys := eT E) (ci := 10) (C := RX11) (T := TX11) (N := 23) (v := .ref (eM E 3)) hx hb hts hinX11 hown hE.1 hW.1 0 rfl rfl 2 (by decide) (hts (.fieldLink RX11 16 "DialGardenModel" "keptRow" "[I") (by decide +kernel)) (fun _ h9 => h9) rfl dX11_keep_52 ?_
            refine lv_bipush (v := 7) hx hb dX11_keep_55 (by decide) ?_
            refine lv_iload_n hx hb dX11_keep_57 rfl (lv_at hl 2 rfl) ?_
            refine lv_imul hx hb dX11_keep_58 ?_
            refine lv_iload_n hx hb dX11_keep_59 rfl (lv_at hl 3 rfl) ?_
            refine lv_iadd hx hb dX11_keep_60 ?_
            refine va_iald (D := eD E) (cl := vwCl) (tys := eT E) (f := Z.1 3) hx hb hE.1 hW.1 3 0 rfl rfl (kp_r hi.2 (hi.1.lt c36 (by decide))) dX11_keep_61 ?_
            refine va_iast (D := eD E) (cl := vwCl) (tys := eT E) (A := eA E) (f := Z.1 3) (x := Z.1 3 (((7 * v2) + v3).toNatClampNeg)) hx hb hE.1 hW.1 hW.2 hS 3 0 rfl rfl (kp_s hi.2 (hi.1.lt c36 (by decide))) dX11_keep_62 (fun H locs hP hD hS => ?_)
            have hW : gW E (pM Z 3 (((7 * (v2 - 1)) + v3).toNatClampNeg) (Z.1 3 (((7 * v2) + v3).toNatClampNeg))) S H := gW.of (tM_I3 E Z S (upd (Z.1 3) (((7 * (v2 - 1)) + v3).toNatClampNeg) (Z.1 3 (((7 * v2) + v3).toNatClampNeg)))) hP hD
            obtain ⟨x63, ex63⟩ : ∃ y : Int32, y = v3 + 1 := ⟨_, rfl⟩
            refine lv_iinc (v := x63) (lv' := [(3, .int (x63)), (0, .ref (eM E 0)), (1, .int (p1)), (2, .int (v2))]) hx hb dX11_keep_63 hl (k := 3) rfl (by rw [ex63]; rfl) (by decide) rfl (fun ls hl => ?_)
            refine lv_goto (tgt := 33) hx hb dX11_keep_66 (by decide) ?_
            exact ih _ _ _ _ _ (by exact ⟨hi.1.st c36 (by decide) ex63, hi.2⟩) hW hS (lv_sub hl [1, 2, 3, 0] rfl) (fun Z9 H9 l9 s9 e9 hW9 hS9 hl9 => kx Z9 H9 l9 s9 (e9.trans (by subst ex63; simp only [q_X11_keep_b33, if_neg c36])) hW9 hS9 hl9)
      refine lv_iload_n hx hb dX11_keep_11 rfl (lv_at hl 2 rfl) ?_
      refine lv_bipush (v := 16) hx hb dX11_keep_12 (by decide) ?_
      refine lv_icmp_ge (tgt := 75) hx hb dX11_keep_14 (by decide) (fun c14 => ?_) (fun c14 => ?_)
      · refine lv_aload_n hx hb dX11_keep_75 rfl (lv_at hl 0 rfl) ?_
        refine lv_dup hx hb dX11_keep_76 rfl ?_
        refine va_get (D := eD E) (cl := vwCl) (tys := eT E) (ci := 10) (C := RX11) (T := TX11) (N := 23) (v := .int (Z.1 0 3)) hx hb hts hinX11 hown hE.1 hW.1 0 rfl rfl 3 (by decide) (hts (.fieldLink RX11 46 "DialGardenModel" "kept" "I") (by decide +kernel)) (fun _ h9 => h9) rfl dX11_keep_77 ?_
        refine lv_iconst (v := 1) hx hb dX11_keep_80 (by decide) ?_
        refine lv_isub hx hb dX11_keep_81 ?_
        refine va_put (D := eD E) (cl := vwCl) (tys := eT E) (A := eA E) (ci := 10) (C := RX11) (T := TX11) (N := 23) (v := .int ((Z.1 0 3) - 1)) (ty := .int) hx hb hts hinX11 tyX11 tyX11_ok nmX11 hown hE.1 hW.1 hW.2 hS 0 rfl rfl 3 (by decide) (hts (.fieldLink RX11 46 "DialGardenModel" "kept" "I") (by decide +kernel)) (fun _ h9 => h9) rfl (by decide +kernel) rfl rfl (Nat.le_of_ble_eq_true rfl) dX11_keep_82 (fun H locs hP hD hS => ?_)
        have hW : gW E (pM Z 0 3 ((Z.1 0 3) - 1)) S H := gW.of (uM_0_3 E Z S ((Z.1 0 3) - 1)) hP hD
        exact J85 _ _ _ _ (by first | exact kp_15 hi.2 | exact kp_lt hk0 hk c6) (by rw [hq]; first | (simp only [q_X11_keep_b11, if_pos c14]; done) | contradiction) hW hS (lv_sub hl [0, 1] rfl)
      · refine lv_aload_n hx hb dX11_keep_17 rfl (lv_at hl 0 rfl) ?_
        refine va_get (D := eD E) (cl := vwCl) (tys := eT E) (ci := 10) (C := RX11) (T := TX11) (N := 23) (v := .ref (eM E 2)) hx hb hts hinX11 hown hE.1 hW.1 0 rfl rfl 1 (by decide) (hts (.fieldLink RX11 13 "DialGardenModel" "keptPlace" "[I") (by decide +kernel)) (fun _ h9 => h9) rfl dX11_keep_18 ?_
        refine lv_iload_n hx hb dX11_keep_21 rfl (lv_at hl 2 rfl) ?_
        refine lv_iconst (v := 1) hx hb dX11_keep_22 (by decide) ?_
        refine lv_isub hx hb dX11_keep_23 ?_
        refine lv_aload_n hx hb dX11_keep_24 rfl (lv_at hl 0 rfl) ?_
        refine va_get (D := eD E) (cl := vwCl) (tys := eT E) (ci := 10) (C := RX11) (T := TX11) (N := 23) (v := .ref (eM E 2)) hx hb hts hinX11 hown hE.1 hW.1 0 rfl rfl 1 (by decide) (hts (.fieldLink RX11 13 "DialGardenModel" "keptPlace" "[I") (by decide +kernel)) (fun _ h9 => h9) rfl dX11_keep_25 ?_
        refine lv_iload_n hx hb dX11_keep_28 rfl (lv_at hl 2 rfl) ?_
        refine va_iald (D := eD E) (cl := vwCl) (tys := eT E) (f := Z.1 2) hx hb hE.1 hW.1 2 0 rfl rfl (kp_a (kp_v hi.1 c14)) dX11_keep_29 ?_
        refine va_iast (D := eD E) (cl := vwCl) (tys := eT E) (A := eA E) (f := Z.1 2) (x := Z.1 2 (v2.toNatClampNeg)) hx hb hE.1 hW.1 hW.2 hS 2 0 rfl rfl (kp_b (kp_v hi.1 c14)) dX11_keep_30 (fun H locs hP hD hS => ?_)
        have hW : gW E (pM Z 2 ((v2 - 1).toNatClampNeg) (Z.1 2 (v2.toNatClampNeg))) S H := gW.of (tM_I2 E Z S (upd (Z.1 2) ((v2 - 1).toNatClampNeg) (Z.1 2 (v2.toNatClampNeg)))) hP hD
        refine lv_iconst (v := 0) hx hb dX11_keep_31 (by decide) ?_
        refine lv_istore_n (lv' := [(3, .int (0)), (0, .ref (eM E 0)), (1, .int (p1)), (2, .int (v2))]) hx hb dX11_keep_32 rfl hl (by decide) rfl (fun ls hl => ?_)
        refine L33 8 _ _ _ _ _ (by exact ⟨gL.i 7, kp_v hi.1 c14⟩) hW hS (lv_sub hl [1, 2, 3, 0] rfl) (fun Z33 H locs ls eZ33 hW hS hl => ?_)
        obtain ⟨x69, ex69⟩ : ∃ y : Int32, y = v2 + 1 := ⟨_, rfl⟩
        refine lv_iinc (v := x69) (lv' := [(2, .int (x69)), (0, .ref (eM E 0)), (1, .int (p1))]) hx hb dX11_keep_69 hl (k := 2) rfl (by rw [ex69]; rfl) (by decide) rfl (fun ls hl => ?_)
        refine lv_goto (tgt := 11) hx hb dX11_keep_72 (by decide) ?_
        exact ih _ _ _ _ _ (by exact ⟨kp_st hi.1 c14 ex69, by rw [eZ33]; exact (kp_in _ _ _ _ _ _).trans hi.2⟩) (by rw [hq]; subst ex69; subst eZ33; first | (simp only [q_X11_keep_b11, if_neg c14]; done) | contradiction) hW hS (lv_sub hl [1, 2, 0] rfl)
  refine lv_aload_n hx hb dX11_keep_0 rfl (lv_at hl 0 rfl) ?_
  refine va_get (D := eD E) (cl := vwCl) (tys := eT E) (ci := 10) (C := RX11) (T := TX11) (N := 23) (v := .int (M.1 0 3)) hx hb hts hinX11 hown hE.1 hW.1 0 rfl rfl 3 (by decide) (hts (.fieldLink RX11 46 "DialGardenModel" "kept" "I") (by decide +kernel)) (fun _ h9 => h9) rfl dX11_keep_1 ?_
  refine lv_bipush (v := 16) hx hb dX11_keep_4 (by decide) ?_
  refine lv_icmp_ne (tgt := 85) hx hb dX11_keep_6 (by decide) (fun c6 => ?_) (fun c6 => ?_)
  · exact J85 _ _ _ _ (by first | exact kp_15 hi.2 | exact kp_lt hk0 hk c6) (by first | (simp only [q_X11_keep, if_neg c6]; done) | contradiction) hW hS (lv_sub hl [0, 1] rfl)
  · refine lv_iconst (v := 1) hx hb dX11_keep_9 (by decide) ?_
    refine lv_istore_n (lv' := [(2, .int (1)), (0, .ref (eM E 0)), (1, .int (p1))]) hx hb dX11_keep_10 rfl hl (by decide) rfl (fun ls hl => ?_)
    exact L11 16 _ _ _ _ _ (by exact ⟨by decide, c6⟩) (by first | (simp only [q_X11_keep, if_pos c6]; done) | contradiction) hW hS (lv_sub hl [1, 2, 0] rfl)

def q_X11_undo_b22 (M : gSm)  : Nat → Int32 → gSm → Int32 × gSm
  | 0, v1, Z => (0, Z)
  | n + 1, v1, Z => (if 7 ≤ v1 then (Z.1 2 ((Z.1 0 3).toNatClampNeg), Z) else (let x61 := v1 + 1; q_X11_undo_b22 M n x61 (pM Z 1 (((7 * (Z.1 2 ((Z.1 0 3).toNatClampNeg))) + v1).toNatClampNeg) (Z.1 3 (((7 * (Z.1 0 3)) + v1).toNatClampNeg)))))
def q_X11_undo (M : gSm)  : Int32 × gSm := (if (M.1 0 3) = 0 then ((-2000000002), M) else q_X11_undo_b22 M 8 0 (pM M 0 3 ((M.1 0 3) - 1)))
set_option maxHeartbeats 4000000 in
set_option maxRecDepth 100000 in
theorem c_X11_undo (l : Launch) (E : gEE) (M : gSm) (S : gSc)  (hk0 : 0 ≤ (M.1 0 3).toInt) (hk : (M.1 0 3).toInt ≤ 16) (hkp : ∀ j, j < 16 → isP (M.1 2 j)) : Met l yX11_undo wsX11_undo ({ frames := 0, cells := 0, slots := 0, locals := 0 }) (va_Pc [.ref (eM E 0)] (gP E M S)) (va_Qi (fun r (u : gSm) => (r, u) = q_X11_undo M) (fun u t => gW E u S t.heap) (eA E)) 0 0 (eA E) := by
  refine Met.ofW (cc := cX11_undo) (maxL := 2) (ret := (some .int)) (by decide) rfl ?_
  intro p e s m args below meth c s₁ B hml hv
  obtain ⟨rfl, hE, hW⟩ := hv
  have hx := B.exec
  have hb := B.bytes
  have hr := B.returns
  have hts := atoms_spec (ws := wsX11_undo) B.pre
  have hown : s.vm.findClass RX11 = some m.cls := findClass_of_methodNamed B.named
  have hlocks := B.notSynchronized
  have hinX11 : ∀ w ∈ wsX110, w ∈ wsX11_undo := by decide +kernel
  have hS : va_S (eA E) s.heap s.heap [] := va_S.rf
  have hl := lv_entry ([.ref (eM E 0)]) (n := 2) (Nat.le_of_ble_eq_true rfl)
  rw [lg_entry_eq]
  generalize (lg_sl ([.ref (eM E 0)]) ++ List.replicate (2 - (lg_sl ([.ref (eM E 0)])).length) Slot.unset).toArray = ls at hl ⊢
  have hl : lv_has ls 2 [(0, .ref (eM E 0))] := hl
  have hS : ∃ (H : Heap) (locs : List Loc), H = s.heap ∧ locs = [] ∧ gW E M S H ∧ va_S (eA E) s.heap H locs := ⟨_, _, rfl, rfl, hW, hS⟩
  clear hW
  obtain ⟨H, locs, eH, el, hW, hS⟩ := hS
  rw [← eH, ← el]
  clear eH el
  have L22 : ∀ n : Nat, ∀ (v1 : Int32) (Z : gSm) (H : Heap) (locs : List Loc) (ls : Array Slot), (gL 7 n v1 ∧ okU Z) → q_X11_undo M = q_X11_undo_b22 M n v1 Z → gW E Z S H → va_S (eA E) s.heap H locs → lv_has ls 2 [(0, .ref (eM E 0)), (1, .int (v1))] → W p l e (headSpec wsX11_undo ({ frames := 0, cells := 0, slots := 0, locals := 0 })).room s m ([.ref (eM E 0)] : List Value).toArray below meth c H locs 0 0 (MQ below (va_Qi (fun r (u : gSm) => (r, u) = q_X11_undo M) (fun u t => gW E u S t.heap) (eA E)) ([.ref (eM E 0)] : List Value).toArray s 0 0 (eA E)) (F0 m 22 ls []) := by
    intro n
    induction n with
    | zero =>
      intro v1 Z H locs ls hi hq hW hS hl
      exact hi.1.z
    | succ n ih =>
      intro v1 Z H locs ls hi hq hW hS hl
      refine lv_iload_n hx hb dX11_undo_22 rfl (lv_at hl 1 rfl) ?_
      refine lv_bipush (v := 7) hx hb dX11_undo_23 (by decide) ?_
      refine lv_icmp_ge (tgt := 67) hx hb dX11_undo_25 (by decide) (fun c25 => ?_) (fun c25 => ?_)
      · refine lv_aload_n hx hb dX11_undo_67 rfl (lv_at hl 0 rfl) ?_
        refine va_get (D := eD E) (cl := vwCl) (tys := eT E) (ci := 10) (C := RX11) (T := TX11) (N := 23) (v := .ref (eM E 2)) hx hb hts hinX11 hown hE.1 hW.1 0 rfl rfl 1 (by decide) (hts (.fieldLink RX11 13 "DialGardenModel" "keptPlace" "[I") (by decide +kernel)) (fun _ h9 => h9) rfl dX11_undo_68 ?_
        refine lv_aload_n hx hb dX11_undo_71 rfl (lv_at hl 0 rfl) ?_
        refine va_get (D := eD E) (cl := vwCl) (tys := eT E) (ci := 10) (C := RX11) (T := TX11) (N := 23) (v := .int (Z.1 0 3)) hx hb hts hinX11 hown hE.1 hW.1 0 rfl rfl 3 (by decide) (hts (.fieldLink RX11 46 "DialGardenModel" "kept" "I") (by decide +kernel)) (fun _ h9 => h9) rfl dX11_undo_72 ?_
        refine va_iald (D := eD E) (cl := vwCl) (tys := eT E) (f := Z.1 2) hx hb hE.1 hW.1 2 0 rfl rfl hi.2.k dX11_undo_75 ?_
        exact W.iret (v := Z.1 2 ((Z.1 0 3).toNatClampNeg)) hx hb hr (fun t ht _ => ⟨⟨Z.1 2 ((Z.1 0 3).toNatClampNeg), Z, rfl, by rw [hq]; first | (simp only [q_X11_undo_b22, if_pos c25]; done) | contradiction, by dsimp only; rw [ht]; exact hW⟩, hS.F ht⟩) hS.2.2 dX11_undo_76
      · refine lv_aload_n hx hb dX11_undo_28 rfl (lv_at hl 0 rfl) ?_
        refine va_get (D := eD E) (cl := vwCl) (tys := eT E) (ci := 10) (C := RX11) (T := TX11) (N := 23) (v := .ref (eM E 1)) hx hb hts hinX11 hown hE.1 hW.1 0 rfl rfl 0 (by decide) (hts (.fieldLink RX11 7 "DialGardenModel" "garden" "[I") (by decide +kernel)) (fun _ h9 => h9) rfl dX11_undo_29 ?_
        refine lv_bipush (v := 7) hx hb dX11_undo_32 (by decide) ?_
        refine lv_aload_n hx hb dX11_undo_34 rfl (lv_at hl 0 rfl) ?_
        refine va_get (D := eD E) (cl := vwCl) (tys := eT E) (ci := 10) (C := RX11) (T := TX11) (N := 23) (v := .ref (eM E 2)) hx hb hts hinX11 hown hE.1 hW.1 0 rfl rfl 1 (by decide) (hts (.fieldLink RX11 13 "DialGardenModel" "keptPlace" "[I") (by decide +kernel)) (fun _ h9 => h9) rfl dX11_undo_35 ?_
        refine lv_aload_n hx hb dX11_undo_38 rfl (lv_at hl 0 rfl) ?_
        refine va_get (D := eD E) (cl := vwCl) (tys := eT E) (ci := 10) (C := RX11) (T := TX11) (N := 23) (v := .int (Z.1 0 3)) hx hb hts hinX11 hown hE.1 hW.1 0 rfl rfl 3 (by decide) (hts (.fieldLink RX11 46 "DialGardenModel" "kept" "I") (by decide +kernel)) (fun _ h9 => h9) rfl dX11_undo_39 ?_
        refine va_iald (D := eD E) (cl := vwCl) (tys := eT E) (f := Z.1 2) hx hb hE.1 hW.1 2 0 rfl rfl hi.2.k dX11_undo_42 ?_
        refine lv_imul hx hb dX11_undo_43 ?_
        refine lv_iload_n hx hb dX11_undo_44 rfl (lv_at hl 1 rfl) ?_
        refine lv_iadd hx hb dX11_undo_45 ?_
        refine lv_aload_n hx hb dX11_undo_46 rfl (lv_at hl 0 rfl) ?_
        refine va_get (D := eD E) (cl := vwCl) (tys := eT E) (ci := 10) (C := RX11) (T := TX11) (N := 23) (v := .ref (eM E 3)) hx hb hts hinX11 hown hE.1 hW.1 0 rfl rfl 2 (by decide) (hts (.fieldLink RX11 16 "DialGardenModel" "keptRow" "[I") (by decide +kernel)) (fun _ h9 => h9) rfl dX11_undo_47 ?_
        refine lv_bipush (v := 7) hx hb dX11_undo_50 (by decide) ?_
        refine lv_aload_n hx hb dX11_undo_52 rfl (lv_at hl 0 rfl) ?_
        refine va_get (D := eD E) (cl := vwCl) (tys := eT E) (ci := 10) (C := RX11) (T := TX11) (N := 23) (v := .int (Z.1 0 3)) hx hb hts hinX11 hown hE.1 hW.1 0 rfl rfl 3 (by decide) (hts (.fieldLink RX11 46 "DialGardenModel" "kept" "I") (by decide +kernel)) (fun _ h9 => h9) rfl dX11_undo_53 ?_
        refine lv_imul hx hb dX11_undo_56 ?_
        refine lv_iload_n hx hb dX11_undo_57 rfl (lv_at hl 1 rfl) ?_
        refine lv_iadd hx hb dX11_undo_58 ?_
        refine va_iald (D := eD E) (cl := vwCl) (tys := eT E) (f := Z.1 3) hx hb hE.1 hW.1 3 0 rfl rfl (hi.2.r (hi.1.lt c25 (by decide))) dX11_undo_59 ?_
        refine va_iast (D := eD E) (cl := vwCl) (tys := eT E) (A := eA E) (f := Z.1 1) (x := Z.1 3 (((7 * (Z.1 0 3)) + v1).toNatClampNeg)) hx hb hE.1 hW.1 hW.2 hS 1 0 rfl rfl (gx hi.2.2.2 (hi.1.lt c25 (by decide))) dX11_undo_60 (fun H locs hP hD hS => ?_)
        have hW : gW E (pM Z 1 (((7 * (Z.1 2 ((Z.1 0 3).toNatClampNeg))) + v1).toNatClampNeg) (Z.1 3 (((7 * (Z.1 0 3)) + v1).toNatClampNeg))) S H := gW.of (tM_I1 E Z S (upd (Z.1 1) (((7 * (Z.1 2 ((Z.1 0 3).toNatClampNeg))) + v1).toNatClampNeg) (Z.1 3 (((7 * (Z.1 0 3)) + v1).toNatClampNeg)))) hP hD
        obtain ⟨x61, ex61⟩ : ∃ y : Int32, y = v1 + 1 := ⟨_, rfl⟩
        refine lv_iinc (v := x61) (lv' := [(1, .int (x61)), (0, .ref (eM E 0))]) hx hb dX11_undo_61 hl (k := 1) rfl (by rw [ex61]; rfl) (by decide) rfl (fun ls hl => ?_)
        refine lv_goto (tgt := 22) hx hb dX11_undo_64 (by decide) ?_
        exact ih _ _ _ _ _ (by exact ⟨hi.1.st c25 (by decide) ex61, hi.2⟩) (by rw [hq]; subst ex61; first | (simp only [q_X11_undo_b22, if_neg c25]; done) | contradiction) hW hS (lv_sub hl [1, 0] rfl)
  refine lv_aload_n hx hb dX11_undo_0 rfl (lv_at hl 0 rfl) ?_
  refine va_get (D := eD E) (cl := vwCl) (tys := eT E) (ci := 10) (C := RX11) (T := TX11) (N := 23) (v := .int (M.1 0 3)) hx hb hts hinX11 hown hE.1 hW.1 0 rfl rfl 3 (by decide) (hts (.fieldLink RX11 46 "DialGardenModel" "kept" "I") (by decide +kernel)) (fun _ h9 => h9) rfl dX11_undo_1 ?_
  refine lv_if_ne (tgt := 10) hx hb dX11_undo_4 (by decide) (fun c4 => ?_) (fun c4 => ?_)
  · refine lv_aload_n hx hb dX11_undo_10 rfl (lv_at hl 0 rfl) ?_
    refine lv_dup hx hb dX11_undo_11 rfl ?_
    refine va_get (D := eD E) (cl := vwCl) (tys := eT E) (ci := 10) (C := RX11) (T := TX11) (N := 23) (v := .int (M.1 0 3)) hx hb hts hinX11 hown hE.1 hW.1 0 rfl rfl 3 (by decide) (hts (.fieldLink RX11 46 "DialGardenModel" "kept" "I") (by decide +kernel)) (fun _ h9 => h9) rfl dX11_undo_12 ?_
    refine lv_iconst (v := 1) hx hb dX11_undo_15 (by decide) ?_
    refine lv_isub hx hb dX11_undo_16 ?_
    refine va_put (D := eD E) (cl := vwCl) (tys := eT E) (A := eA E) (ci := 10) (C := RX11) (T := TX11) (N := 23) (v := .int ((M.1 0 3) - 1)) (ty := .int) hx hb hts hinX11 tyX11 tyX11_ok nmX11 hown hE.1 hW.1 hW.2 hS 0 rfl rfl 3 (by decide) (hts (.fieldLink RX11 46 "DialGardenModel" "kept" "I") (by decide +kernel)) (fun _ h9 => h9) rfl (by decide +kernel) rfl rfl (Nat.le_of_ble_eq_true rfl) dX11_undo_17 (fun H locs hP hD hS => ?_)
    have hW : gW E (pM M 0 3 ((M.1 0 3) - 1)) S H := gW.of (uM_0_3 E M S ((M.1 0 3) - 1)) hP hD
    refine lv_iconst (v := 0) hx hb dX11_undo_20 (by decide) ?_
    refine lv_istore_n (lv' := [(1, .int (0)), (0, .ref (eM E 0))]) hx hb dX11_undo_21 rfl hl (by decide) rfl (fun ls hl => ?_)
    exact L22 8 _ _ _ _ _ (by exact ⟨gL.i 7, un_ok hk0 hk c4 hkp⟩) (by first | (simp only [q_X11_undo, if_neg c4]; done) | contradiction) hW hS (lv_sub hl [1, 0] rfl)
  · refine lv_ldc hx hb (v := (-2000000002)) hown (hts (.constant RX11 141 (-2000000002)) (by decide +kernel)) dX11_undo_7 ?_
    exact W.iret (v := (-2000000002)) hx hb hr (fun t ht _ => ⟨⟨(-2000000002), M, rfl, by first | (simp only [q_X11_undo, if_pos c4]; done) | contradiction, by dsimp only; rw [ht]; exact hW⟩, hS.F ht⟩) hS.2.2 dX11_undo_9

def q_X11_copy_b52 (M : gSm) (p1 : Int32) (p2 : Int32) (p3 : Int32) : Nat → Int32 → gSm → Int32 × gSm
  | 0, v4, Z => (0, Z)
  | n + 1, v4, Z => (if p3 ≤ v4 then (0, Z) else (if p2 ≤ p1 then (let x94 := v4 + 1; q_X11_copy_b52 M p1 p2 p3 n x94 (pM Z 4 ((p2 + v4).toNatClampNeg) (Z.1 4 ((p1 + v4).toNatClampNeg)))) else (let x74 := (p3 - 1) - v4; (let x94 := v4 + 1; q_X11_copy_b52 M p1 p2 p3 n x94 (pM Z 4 ((p2 + x74).toNatClampNeg) (Z.1 4 ((p1 + x74).toNatClampNeg)))))))
def q_X11_copy (M : gSm) (p1 : Int32) (p2 : Int32) (p3 : Int32) : Int32 × gSm := (let r8 := q_X11_isIn (p3.toInt64) 0 ((M.1 0 6).toInt64); (if r8 = 0 then ((-2000000001), M) else (let r24 := q_X11_isIn (p1.toInt64) 0 (((M.1 0 6) - p3).toInt64); (if r24 = 0 then ((-2000000001), M) else (let r40 := q_X11_isIn (p2.toInt64) 0 (((M.1 0 6) - p3).toInt64); (if r40 = 0 then ((-2000000001), M) else q_X11_copy_b52 M p1 p2 p3 367 0 M))))))
set_option maxHeartbeats 4000000 in
set_option maxRecDepth 100000 in
theorem c_X11_copy (l : Launch) (E : gEE) (M : gSm) (S : gSc) (p1 : Int32) (p2 : Int32) (p3 : Int32) (hc0 : 0 ≤ (M.1 0 6).toInt) (hc : (M.1 0 6).toInt ≤ 366) : Met l yX11_copy wsX11_copy ({ frames := 1, cells := 0, slots := 0, locals := 25 }) (va_Pc [.ref (eM E 0), .int (p1), .int (p2), .int (p3)] (gP E M S)) (va_Qi (fun r (u : gSm) => (r, u) = q_X11_copy M p1 p2 p3) (fun u t => gW E u S t.heap) (eA E)) 0 0 (eA E) := by
  refine Met.ofW (cc := cX11_copy) (maxL := 6) (ret := (some .int)) (by decide) rfl ?_
  intro p e s m args below meth c s₁ B hml hv
  obtain ⟨rfl, hE, hW⟩ := hv
  have hx := B.exec
  have hb := B.bytes
  have hr := B.returns
  have hts := atoms_spec (ws := wsX11_copy) B.pre
  have hown : s.vm.findClass RX11 = some m.cls := findClass_of_methodNamed B.named
  have hlocks := B.notSynchronized
  have hinX11 : ∀ w ∈ wsX110, w ∈ wsX11_copy := by decide +kernel
  have hS : va_S (eA E) s.heap s.heap [] := va_S.rf
  have hl := lv_entry ([.ref (eM E 0), .int (p1), .int (p2), .int (p3)]) (n := 6) (Nat.le_of_ble_eq_true rfl)
  rw [lg_entry_eq]
  generalize (lg_sl ([.ref (eM E 0), .int (p1), .int (p2), .int (p3)]) ++ List.replicate (6 - (lg_sl ([.ref (eM E 0), .int (p1), .int (p2), .int (p3)])).length) Slot.unset).toArray = ls at hl ⊢
  have hl : lv_has ls 6 [(0, .ref (eM E 0)), (1, .int (p1)), (2, .int (p2)), (3, .int (p3))] := hl
  have hS : ∃ (H : Heap) (locs : List Loc), H = s.heap ∧ locs = [] ∧ gW E M S H ∧ va_S (eA E) s.heap H locs := ⟨_, _, rfl, rfl, hW, hS⟩
  clear hW
  obtain ⟨H, locs, eH, el, hW, hS⟩ := hS
  rw [← eH, ← el]
  clear eH el
  have L52 : ∀ n : Nat, ∀ (v4 : Int32) (Z : gSm) (H : Heap) (locs : List Loc) (ls : Array Slot), ((0 ≤ v4.toInt ∧ v4.toInt ≤ p3.toInt ∧ p3.toInt < v4.toInt + n) ∧ cpOk p1 p2 p3) → q_X11_copy M p1 p2 p3 = q_X11_copy_b52 M p1 p2 p3 n v4 Z → gW E Z S H → va_S (eA E) s.heap H locs → lv_has ls 6 [(0, .ref (eM E 0)), (1, .int (p1)), (2, .int (p2)), (3, .int (p3)), (4, .int (v4))] → W p l e (headSpec wsX11_copy ({ frames := 1, cells := 0, slots := 0, locals := 25 })).room s m ([.ref (eM E 0), .int (p1), .int (p2), .int (p3)] : List Value).toArray below meth c H locs 0 0 (MQ below (va_Qi (fun r (u : gSm) => (r, u) = q_X11_copy M p1 p2 p3) (fun u t => gW E u S t.heap) (eA E)) ([.ref (eM E 0), .int (p1), .int (p2), .int (p3)] : List Value).toArray s 0 0 (eA E)) (F0 m 52 ls []) := by
    intro n
    induction n with
    | zero =>
      intro v4 Z H locs ls hi hq hW hS hl
      exact absurd hi.1.2.2 (by have := hi.1.2.1; omega)
    | succ n ih =>
      intro v4 Z H locs ls hi hq hW hS hl
      refine lv_iload hx hb dX11_copy_52 (lv_at hl 4 rfl) ?_
      refine lv_iload_n hx hb dX11_copy_54 rfl (lv_at hl 3 rfl) ?_
      refine lv_icmp_ge (tgt := 100) hx hb dX11_copy_55 (by decide) (fun c55 => ?_) (fun c55 => ?_)
      · refine lv_iconst (v := 0) hx hb dX11_copy_100 (by decide) ?_
        exact W.iret (v := 0) hx hb hr (fun t ht _ => ⟨⟨0, Z, rfl, by rw [hq]; first | (simp only [q_X11_copy_b52, if_pos c55]; done) | contradiction, by dsimp only; rw [ht]; exact hW⟩, hS.F ht⟩) hS.2.2 dX11_copy_101
      · refine lv_iload_n hx hb dX11_copy_58 rfl (lv_at hl 2 rfl) ?_
        refine lv_iload_n hx hb dX11_copy_59 rfl (lv_at hl 1 rfl) ?_
        refine lv_icmp_le (tgt := 72) hx hb dX11_copy_60 (by decide) (fun c60 => ?_) (fun c60 => ?_)
        · refine lv_iload hx hb dX11_copy_72 (lv_at hl 4 rfl) ?_
          refine lv_istore (lv' := [(5, .int (v4)), (0, .ref (eM E 0)), (1, .int (p1)), (2, .int (p2)), (3, .int (p3)), (4, .int (v4))]) hx hb dX11_copy_74 hl (by decide) rfl (fun ls hl => ?_)
          refine lv_aload_n hx hb dX11_copy_76 rfl (lv_at hl 1 rfl) ?_
          refine va_get (D := eD E) (cl := vwCl) (tys := eT E) (ci := 10) (C := RX11) (T := TX11) (N := 23) (v := .ref (eM E 4)) hx hb hts hinX11 hown hE.1 hW.1 0 rfl rfl 5 (by decide) (hts (.fieldLink RX11 23 "DialGardenModel" "corrections" "[I") (by decide +kernel)) (fun _ h9 => h9) rfl dX11_copy_77 ?_
          refine lv_iload_n hx hb dX11_copy_80 rfl (lv_at hl 3 rfl) ?_
          refine lv_iload hx hb dX11_copy_81 (lv_at hl 0 rfl) ?_
          refine lv_iadd hx hb dX11_copy_83 ?_
          refine lv_aload_n hx hb dX11_copy_84 rfl (lv_at hl 1 rfl) ?_
          refine va_get (D := eD E) (cl := vwCl) (tys := eT E) (ci := 10) (C := RX11) (T := TX11) (N := 23) (v := .ref (eM E 4)) hx hb hts hinX11 hown hE.1 hW.1 0 rfl rfl 5 (by decide) (hts (.fieldLink RX11 23 "DialGardenModel" "corrections" "[I") (by decide +kernel)) (fun _ h9 => h9) rfl dX11_copy_85 ?_
          refine lv_iload_n hx hb dX11_copy_88 rfl (lv_at hl 2 rfl) ?_
          refine lv_iload hx hb dX11_copy_89 (lv_at hl 0 rfl) ?_
          refine lv_iadd hx hb dX11_copy_91 ?_
          refine va_iald (D := eD E) (cl := vwCl) (tys := eT E) (f := Z.1 4) hx hb hE.1 hW.1 4 0 rfl rfl (by first | exact cp_a1 hi c55 ex74 | exact cp_a2 hi c55) dX11_copy_92 ?_
          refine va_iast (D := eD E) (cl := vwCl) (tys := eT E) (A := eA E) (f := Z.1 4) (x := Z.1 4 ((p1 + v4).toNatClampNeg)) hx hb hE.1 hW.1 hW.2 hS 4 0 rfl rfl (by first | exact cp_b1 hi c55 ex74 | exact cp_b2 hi c55) dX11_copy_93 (fun H locs hP hD hS => ?_)
          have hW : gW E (pM Z 4 ((p2 + v4).toNatClampNeg) (Z.1 4 ((p1 + v4).toNatClampNeg))) S H := gW.of (tM_I4 E Z S (upd (Z.1 4) ((p2 + v4).toNatClampNeg) (Z.1 4 ((p1 + v4).toNatClampNeg)))) hP hD
          obtain ⟨x94, ex94⟩ : ∃ y : Int32, y = v4 + 1 := ⟨_, rfl⟩
          refine lv_iinc (v := x94) (lv' := [(4, .int (x94)), (5, .int (v4)), (0, .ref (eM E 0)), (1, .int (p1)), (2, .int (p2)), (3, .int (p3))]) hx hb dX11_copy_94 hl (k := 5) rfl (by rw [ex94]; rfl) (by decide) rfl (fun ls hl => ?_)
          refine lv_goto (tgt := 52) hx hb dX11_copy_97 (by decide) ?_
          exact ih _ _ _ _ _ (by exact ⟨cp_st hi.1 c55 ex94, hi.2⟩) (by rw [hq]; subst ex94; first | (simp only [q_X11_copy_b52, if_neg c55, if_pos c60]; done) | contradiction) hW hS (lv_sub hl [2, 3, 4, 5, 0] rfl)
        · refine lv_iload_n hx hb dX11_copy_63 rfl (lv_at hl 3 rfl) ?_
          refine lv_iconst (v := 1) hx hb dX11_copy_64 (by decide) ?_
          refine lv_isub hx hb dX11_copy_65 ?_
          refine lv_iload hx hb dX11_copy_66 (lv_at hl 4 rfl) ?_
          refine lv_isub hx hb dX11_copy_68 ?_
          refine lv_goto (tgt := 74) hx hb dX11_copy_69 (by decide) ?_
          refine lv_topi (fun x74 ex74 => ?_)
          refine lv_istore (lv' := [(5, .int (x74)), (0, .ref (eM E 0)), (1, .int (p1)), (2, .int (p2)), (3, .int (p3)), (4, .int (v4))]) hx hb dX11_copy_74 hl (by decide) rfl (fun ls hl => ?_)
          refine lv_aload_n hx hb dX11_copy_76 rfl (lv_at hl 1 rfl) ?_
          refine va_get (D := eD E) (cl := vwCl) (tys := eT E) (ci := 10) (C := RX11) (T := TX11) (N := 23) (v := .ref (eM E 4)) hx hb hts hinX11 hown hE.1 hW.1 0 rfl rfl 5 (by decide) (hts (.fieldLink RX11 23 "DialGardenModel" "corrections" "[I") (by decide +kernel)) (fun _ h9 => h9) rfl dX11_copy_77 ?_
          refine lv_iload_n hx hb dX11_copy_80 rfl (lv_at hl 3 rfl) ?_
          refine lv_iload hx hb dX11_copy_81 (lv_at hl 0 rfl) ?_
          refine lv_iadd hx hb dX11_copy_83 ?_
          refine lv_aload_n hx hb dX11_copy_84 rfl (lv_at hl 1 rfl) ?_
          refine va_get (D := eD E) (cl := vwCl) (tys := eT E) (ci := 10) (C := RX11) (T := TX11) (N := 23) (v := .ref (eM E 4)) hx hb hts hinX11 hown hE.1 hW.1 0 rfl rfl 5 (by decide) (hts (.fieldLink RX11 23 "DialGardenModel" "corrections" "[I") (by decide +kernel)) (fun _ h9 => h9) rfl dX11_copy_85 ?_
          refine lv_iload_n hx hb dX11_copy_88 rfl (lv_at hl 2 rfl) ?_
          refine lv_iload hx hb dX11_copy_89 (lv_at hl 0 rfl) ?_
          refine lv_iadd hx hb dX11_copy_91 ?_
          refine va_iald (D := eD E) (cl := vwCl) (tys := eT E) (f := Z.1 4) hx hb hE.1 hW.1 4 0 rfl rfl (by first | exact cp_a1 hi c55 ex74 | exact cp_a2 hi c55) dX11_copy_92 ?_
          refine va_iast (D := eD E) (cl := vwCl) (tys := eT E) (A := eA E) (f := Z.1 4) (x := Z.1 4 ((p1 + x74).toNatClampNeg)) hx hb hE.1 hW.1 hW.2 hS 4 0 rfl rfl (by first | exact cp_b1 hi c55 ex74 | exact cp_b2 hi c55) dX11_copy_93 (fun H locs hP hD hS => ?_)
          have hW : gW E (pM Z 4 ((p2 + x74).toNatClampNeg) (Z.1 4 ((p1 + x74).toNatClampNeg))) S H := gW.of (tM_I4 E Z S (upd (Z.1 4) ((p2 + x74).toNatClampNeg) (Z.1 4 ((p1 + x74).toNatClampNeg)))) hP hD
          obtain ⟨x94, ex94⟩ : ∃ y : Int32, y = v4 + 1 := ⟨_, rfl⟩
          refine lv_iinc (v := x94) (lv' := [(4, .int (x94)), (5, .int (x74)), (0, .ref (eM E 0)), (1, .int (p1)), (2, .int (p2)), (3, .int (p3))]) hx hb dX11_copy_94 hl (k := 5) rfl (by rw [ex94]; rfl) (by decide) rfl (fun ls hl => ?_)
          refine lv_goto (tgt := 52) hx hb dX11_copy_97 (by decide) ?_
          exact ih _ _ _ _ _ (by exact ⟨cp_st hi.1 c55 ex94, hi.2⟩) (by rw [hq]; subst ex94; subst ex74; first | (simp only [q_X11_copy_b52, if_neg c55, if_neg c60]; done) | contradiction) hW hS (lv_sub hl [2, 3, 4, 5, 0] rfl)
  refine lv_iload_n hx hb dX11_copy_0 rfl (lv_at hl 3 rfl) ?_
  refine lv_i2l (v := p3.toInt64) hx hb dX11_copy_1 rfl ?_
  refine lv_lconst (v := 0) hx hb dX11_copy_2 (by decide) ?_
  refine lv_aload_n hx hb dX11_copy_3 rfl (lv_at hl 0 rfl) ?_
  refine va_get (D := eD E) (cl := vwCl) (tys := eT E) (ci := 10) (C := RX11) (T := TX11) (N := 23) (v := .int (M.1 0 6)) hx hb hts hinX11 hown hE.1 hW.1 0 rfl rfl 6 (by decide) (hts (.fieldLink RX11 76 "DialGardenModel" "correctionCount" "I") (by decide +kernel)) (fun _ h9 => h9) rfl dX11_copy_4 ?_
  refine lv_i2l (v := (M.1 0 6).toInt64) hx hb dX11_copy_7 rfl ?_
  refine k_Si (va_runS (As := [.long (p3.toInt64), .long (0), .long ((M.1 0 6).toInt64)]) (rest := []) ⟨hx, hb, hml, hown, hts⟩ (c_X11_isIn l (p3.toInt64) 0 ((M.1 0 6).toInt64)) (va_cwS 3 hts gX11_copy_X11_isIn rfl rfl rfl (by decide +kernel) ⟨Nat.le_of_ble_eq_true rfl, Nat.le_of_ble_eq_true rfl⟩) gP0 rfl rfl hl.1 rfl (lv_room (Nat.le_of_ble_eq_true rfl)) dX11_copy_8 ⟨Nat.le_of_ble_eq_true rfl, Nat.le_of_ble_eq_true rfl⟩) (fun r8 er8 => ?_)
  refine lv_if_eq (tgt := 46) hx hb dX11_copy_11 (by decide) (fun c11 => ?_) (fun c11 => ?_)
  · refine lv_ldc hx hb (v := (-2000000001)) hown (hts (.constant RX11 73 (-2000000001)) (by decide +kernel)) dX11_copy_46 ?_
    exact W.iret (v := (-2000000001)) hx hb hr (fun t ht _ => ⟨⟨(-2000000001), M, rfl, by subst er8; first | (simp only [q_X11_copy, if_pos c11]; done) | contradiction, by dsimp only; rw [ht]; exact hW⟩, hS.F ht⟩) hS.2.2 dX11_copy_48
  · refine lv_iload_n hx hb dX11_copy_14 rfl (lv_at hl 1 rfl) ?_
    refine lv_i2l (v := p1.toInt64) hx hb dX11_copy_15 rfl ?_
    refine lv_lconst (v := 0) hx hb dX11_copy_16 (by decide) ?_
    refine lv_aload_n hx hb dX11_copy_17 rfl (lv_at hl 0 rfl) ?_
    refine va_get (D := eD E) (cl := vwCl) (tys := eT E) (ci := 10) (C := RX11) (T := TX11) (N := 23) (v := .int (M.1 0 6)) hx hb hts hinX11 hown hE.1 hW.1 0 rfl rfl 6 (by decide) (hts (.fieldLink RX11 76 "DialGardenModel" "correctionCount" "I") (by decide +kernel)) (fun _ h9 => h9) rfl dX11_copy_18 ?_
    refine lv_iload_n hx hb dX11_copy_21 rfl (lv_at hl 3 rfl) ?_
    refine lv_isub hx hb dX11_copy_22 ?_
    refine lv_i2l (v := ((M.1 0 6) - p3).toInt64) hx hb dX11_copy_23 rfl ?_
    refine k_Si (va_runS (As := [.long (p1.toInt64), .long (0), .long (((M.1 0 6) - p3).toInt64)]) (rest := []) ⟨hx, hb, hml, hown, hts⟩ (c_X11_isIn l (p1.toInt64) 0 (((M.1 0 6) - p3).toInt64)) (va_cwS 3 hts gX11_copy_X11_isIn rfl rfl rfl (by decide +kernel) ⟨Nat.le_of_ble_eq_true rfl, Nat.le_of_ble_eq_true rfl⟩) gP0 rfl rfl hl.1 rfl (lv_room (Nat.le_of_ble_eq_true rfl)) dX11_copy_24 ⟨Nat.le_of_ble_eq_true rfl, Nat.le_of_ble_eq_true rfl⟩) (fun r24 er24 => ?_)
    refine lv_if_eq (tgt := 46) hx hb dX11_copy_27 (by decide) (fun c27 => ?_) (fun c27 => ?_)
    · refine lv_ldc hx hb (v := (-2000000001)) hown (hts (.constant RX11 73 (-2000000001)) (by decide +kernel)) dX11_copy_46 ?_
      exact W.iret (v := (-2000000001)) hx hb hr (fun t ht _ => ⟨⟨(-2000000001), M, rfl, by subst er24; subst er8; first | (simp only [q_X11_copy, if_neg c11, if_pos c27]; done) | contradiction, by dsimp only; rw [ht]; exact hW⟩, hS.F ht⟩) hS.2.2 dX11_copy_48
    · refine lv_iload_n hx hb dX11_copy_30 rfl (lv_at hl 2 rfl) ?_
      refine lv_i2l (v := p2.toInt64) hx hb dX11_copy_31 rfl ?_
      refine lv_lconst (v := 0) hx hb dX11_copy_32 (by decide) ?_
      refine lv_aload_n hx hb dX11_copy_33 rfl (lv_at hl 0 rfl) ?_
      refine va_get (D := eD E) (cl := vwCl) (tys := eT E) (ci := 10) (C := RX11) (T := TX11) (N := 23) (v := .int (M.1 0 6)) hx hb hts hinX11 hown hE.1 hW.1 0 rfl rfl 6 (by decide) (hts (.fieldLink RX11 76 "DialGardenModel" "correctionCount" "I") (by decide +kernel)) (fun _ h9 => h9) rfl dX11_copy_34 ?_
      refine lv_iload_n hx hb dX11_copy_37 rfl (lv_at hl 3 rfl) ?_
      refine lv_isub hx hb dX11_copy_38 ?_
      refine lv_i2l (v := ((M.1 0 6) - p3).toInt64) hx hb dX11_copy_39 rfl ?_
      refine k_Si (va_runS (As := [.long (p2.toInt64), .long (0), .long (((M.1 0 6) - p3).toInt64)]) (rest := []) ⟨hx, hb, hml, hown, hts⟩ (c_X11_isIn l (p2.toInt64) 0 (((M.1 0 6) - p3).toInt64)) (va_cwS 3 hts gX11_copy_X11_isIn rfl rfl rfl (by decide +kernel) ⟨Nat.le_of_ble_eq_true rfl, Nat.le_of_ble_eq_true rfl⟩) gP0 rfl rfl hl.1 rfl (lv_room (Nat.le_of_ble_eq_true rfl)) dX11_copy_40 ⟨Nat.le_of_ble_eq_true rfl, Nat.le_of_ble_eq_true rfl⟩) (fun r40 er40 => ?_)
      refine lv_if_ne (tgt := 49) hx hb dX11_copy_43 (by decide) (fun c43 => ?_) (fun c43 => ?_)
      · refine lv_iconst (v := 0) hx hb dX11_copy_49 (by decide) ?_
        refine lv_istore (lv' := [(4, .int (0)), (0, .ref (eM E 0)), (1, .int (p1)), (2, .int (p2)), (3, .int (p3))]) hx hb dX11_copy_50 hl (by decide) rfl (fun ls hl => ?_)
        exact L52 367 _ _ _ _ _ (by exact cp_i (cp_ok er8 c11 er24 c27 er40 c43 hc0 hc)) (by subst er40; subst er24; subst er8; first | (simp only [q_X11_copy, if_neg c11, if_neg c27, if_neg c43]; done) | contradiction) hW hS (lv_sub hl [1, 2, 3, 4, 0] rfl)
      · refine lv_ldc hx hb (v := (-2000000001)) hown (hts (.constant RX11 73 (-2000000001)) (by decide +kernel)) dX11_copy_46 ?_
        exact W.iret (v := (-2000000001)) hx hb hr (fun t ht _ => ⟨⟨(-2000000001), M, rfl, by subst er40; subst er24; subst er8; first | (simp only [q_X11_copy, if_neg c11, if_neg c27, if_pos c43]; done) | contradiction, by dsimp only; rw [ht]; exact hW⟩, hS.F ht⟩) hS.2.2 dX11_copy_48

def q_X11_dial (M : gSm) (p1 : Int32) (p2 : Int32) (p3 : Int32) (p4 : Int32) (p5 : Int32) : Int32 × gSm := (let r1 := q_X11_isPlace p1; (if r1 = 0 then ((-2000000001), M) else (let r13 := q_X11_isIn (p2.toInt64) 0 4; (if r13 = 0 then ((-2000000001), M) else (let r22 := q_X11_isSpot p3 p4; (if r22 = 0 then ((-2000000001), M) else (let r35 := q_X11_isIn (p5.toInt64) 1 1000; (if r35 = 0 then ((-2000000001), M) else (let M46 := q_X11_keep M p1; (let M55 := q_X11_put M46 p1 0 (2 + p2); (let M62 := q_X11_put M55 p1 1 p3; (let M70 := q_X11_put M62 p1 2 p4; (let M78 := q_X11_put M70 p1 3 p5; (let M85 := q_X11_put M78 p1 4 0; (let M94 := q_X11_put M85 p1 5 8192; (let M103 := q_X11_put M94 p1 6 16777215; (0, M103)))))))))))))))))
set_option maxHeartbeats 4000000 in
set_option maxRecDepth 100000 in
theorem c_X11_dial (l : Launch) (E : gEE) (M : gSm) (S : gSc) (p1 : Int32) (p2 : Int32) (p3 : Int32) (p4 : Int32) (p5 : Int32) (hk0 : 0 ≤ (M.1 0 3).toInt) (hk : (M.1 0 3).toInt ≤ 16) : Met l yX11_dial wsX11_dial ({ frames := 2, cells := 0, slots := 0, locals := 46 }) (va_Pc [.ref (eM E 0), .int (p1), .int (p2), .int (p3), .int (p4), .int (p5)] (gP E M S)) (va_Qi (fun r (u : gSm) => (r, u) = q_X11_dial M p1 p2 p3 p4 p5) (fun u t => gW E u S t.heap) (eA E)) 0 0 (eA E) := by
  refine Met.ofW (cc := cX11_dial) (maxL := 6) (ret := (some .int)) (by decide) rfl ?_
  intro p e s m args below meth c s₁ B hml hv
  obtain ⟨rfl, hE, hW⟩ := hv
  have hx := B.exec
  have hb := B.bytes
  have hr := B.returns
  have hts := atoms_spec (ws := wsX11_dial) B.pre
  have hown : s.vm.findClass RX11 = some m.cls := findClass_of_methodNamed B.named
  have hlocks := B.notSynchronized
  have hS : va_S (eA E) s.heap s.heap [] := va_S.rf
  have hl := lv_entry ([.ref (eM E 0), .int (p1), .int (p2), .int (p3), .int (p4), .int (p5)]) (n := 6) (Nat.le_of_ble_eq_true rfl)
  rw [lg_entry_eq]
  generalize (lg_sl ([.ref (eM E 0), .int (p1), .int (p2), .int (p3), .int (p4), .int (p5)]) ++ List.replicate (6 - (lg_sl ([.ref (eM E 0), .int (p1), .int (p2), .int (p3), .int (p4), .int (p5)])).length) Slot.unset).toArray = ls at hl ⊢
  have hl : lv_has ls 6 [(0, .ref (eM E 0)), (1, .int (p1)), (2, .int (p2)), (3, .int (p3)), (4, .int (p4)), (5, .int (p5))] := hl
  have hS : ∃ (H : Heap) (locs : List Loc), H = s.heap ∧ locs = [] ∧ gW E M S H ∧ va_S (eA E) s.heap H locs := ⟨_, _, rfl, rfl, hW, hS⟩
  clear hW
  obtain ⟨H, locs, eH, el, hW, hS⟩ := hS
  rw [← eH, ← el]
  clear eH el
  refine lv_iload_n hx hb dX11_dial_0 rfl (lv_at hl 1 rfl) ?_
  refine k_Si (va_runS (As := [.int (p1)]) (rest := []) ⟨hx, hb, hml, hown, hts⟩ (c_X11_isPlace l p1) (va_cwS 1 hts gX11_dial_X11_isPlace rfl rfl rfl (by decide +kernel) ⟨Nat.le_of_ble_eq_true rfl, Nat.le_of_ble_eq_true rfl⟩) gP0 rfl rfl hl.1 rfl (lv_room (Nat.le_of_ble_eq_true rfl)) dX11_dial_1 ⟨Nat.le_of_ble_eq_true rfl, Nat.le_of_ble_eq_true rfl⟩) (fun r1 er1 => ?_)
  refine lv_if_eq (tgt := 41) hx hb dX11_dial_4 (by decide) (fun c4 => ?_) (fun c4 => ?_)
  · refine lv_ldc hx hb (v := (-2000000001)) hown (hts (.constant RX11 73 (-2000000001)) (by decide +kernel)) dX11_dial_41 ?_
    exact W.iret (v := (-2000000001)) hx hb hr (fun t ht _ => ⟨⟨(-2000000001), M, rfl, by subst er1; first | (simp only [q_X11_dial, if_pos c4]; done) | contradiction, by dsimp only; rw [ht]; exact hW⟩, hS.F ht⟩) hS.2.2 dX11_dial_43
  · refine lv_iload_n hx hb dX11_dial_7 rfl (lv_at hl 2 rfl) ?_
    refine lv_i2l (v := p2.toInt64) hx hb dX11_dial_8 rfl ?_
    refine lv_lconst (v := 0) hx hb dX11_dial_9 (by decide) ?_
    refine lv_ldc2 hx hb (v := 4) hown (hts (.constantLong RX11 146 (4)) (by decide +kernel)) dX11_dial_10 ?_
    refine k_Si (va_runS (As := [.long (p2.toInt64), .long (0), .long (4)]) (rest := []) ⟨hx, hb, hml, hown, hts⟩ (c_X11_isIn l (p2.toInt64) 0 4) (va_cwS 3 hts gX11_dial_X11_isIn rfl rfl rfl (by decide +kernel) ⟨Nat.le_of_ble_eq_true rfl, Nat.le_of_ble_eq_true rfl⟩) gP0 rfl rfl hl.1 rfl (lv_room (Nat.le_of_ble_eq_true rfl)) dX11_dial_13 ⟨Nat.le_of_ble_eq_true rfl, Nat.le_of_ble_eq_true rfl⟩) (fun r13 er13 => ?_)
    refine lv_if_eq (tgt := 41) hx hb dX11_dial_16 (by decide) (fun c16 => ?_) (fun c16 => ?_)
    · refine lv_ldc hx hb (v := (-2000000001)) hown (hts (.constant RX11 73 (-2000000001)) (by decide +kernel)) dX11_dial_41 ?_
      exact W.iret (v := (-2000000001)) hx hb hr (fun t ht _ => ⟨⟨(-2000000001), M, rfl, by subst er13; subst er1; first | (simp only [q_X11_dial, if_neg c4, if_pos c16]; done) | contradiction, by dsimp only; rw [ht]; exact hW⟩, hS.F ht⟩) hS.2.2 dX11_dial_43
    · refine lv_iload_n hx hb dX11_dial_19 rfl (lv_at hl 3 rfl) ?_
      refine lv_iload hx hb dX11_dial_20 (lv_at hl 4 rfl) ?_
      refine k_Si (va_runS (As := [.int (p3), .int (p4)]) (rest := []) ⟨hx, hb, hml, hown, hts⟩ (c_X11_isSpot l p3 p4) (va_cwS 2 hts gX11_dial_X11_isSpot rfl rfl rfl (by decide +kernel) ⟨Nat.le_of_ble_eq_true rfl, Nat.le_of_ble_eq_true rfl⟩) gP0 rfl rfl hl.1 rfl (lv_room (Nat.le_of_ble_eq_true rfl)) dX11_dial_22 ⟨Nat.le_of_ble_eq_true rfl, Nat.le_of_ble_eq_true rfl⟩) (fun r22 er22 => ?_)
      refine lv_if_eq (tgt := 41) hx hb dX11_dial_25 (by decide) (fun c25 => ?_) (fun c25 => ?_)
      · refine lv_ldc hx hb (v := (-2000000001)) hown (hts (.constant RX11 73 (-2000000001)) (by decide +kernel)) dX11_dial_41 ?_
        exact W.iret (v := (-2000000001)) hx hb hr (fun t ht _ => ⟨⟨(-2000000001), M, rfl, by subst er22; subst er13; subst er1; first | (simp only [q_X11_dial, if_neg c4, if_neg c16, if_pos c25]; done) | contradiction, by dsimp only; rw [ht]; exact hW⟩, hS.F ht⟩) hS.2.2 dX11_dial_43
      · refine lv_iload hx hb dX11_dial_28 (lv_at hl 5 rfl) ?_
        refine lv_i2l (v := p5.toInt64) hx hb dX11_dial_30 rfl ?_
        refine lv_lconst (v := 1) hx hb dX11_dial_31 (by decide) ?_
        refine lv_ldc2 hx hb (v := 1000) hown (hts (.constantLong RX11 151 (1000)) (by decide +kernel)) dX11_dial_32 ?_
        refine k_Si (va_runS (As := [.long (p5.toInt64), .long (1), .long (1000)]) (rest := []) ⟨hx, hb, hml, hown, hts⟩ (c_X11_isIn l (p5.toInt64) 1 1000) (va_cwS 3 hts gX11_dial_X11_isIn rfl rfl rfl (by decide +kernel) ⟨Nat.le_of_ble_eq_true rfl, Nat.le_of_ble_eq_true rfl⟩) gP0 rfl rfl hl.1 rfl (lv_room (Nat.le_of_ble_eq_true rfl)) dX11_dial_35 ⟨Nat.le_of_ble_eq_true rfl, Nat.le_of_ble_eq_true rfl⟩) (fun r35 er35 => ?_)
        refine lv_if_ne (tgt := 44) hx hb dX11_dial_38 (by decide) (fun c38 => ?_) (fun c38 => ?_)
        · refine lv_aload_n hx hb dX11_dial_44 rfl (lv_at hl 0 rfl) ?_
          refine lv_iload_n hx hb dX11_dial_45 rfl (lv_at hl 1 rfl) ?_
          refine va_callv (va_runV (As := [.int (p1)]) (rest := []) ⟨hx, hb, hml, hown, hts⟩ (c_X11_keep l E M S p1 (isPm_of er1 c4) hk0 hk) (cwV 1 hts gX11_dial_X11_keep rfl rfl rfl (by decide +kernel) ⟨Nat.le_of_ble_eq_true rfl, Nat.le_of_ble_eq_true rfl⟩) (gP.V (ci := 10) (q := (RX11, TX11, 23)) (q0 := 0) hE hS hW rfl rfl) rfl rfl hl.1 rfl (lv_room (Nat.le_of_ble_eq_true rfl)) dX11_dial_46 ⟨Nat.le_of_ble_eq_true rfl, Nat.le_of_ble_eq_true rfl⟩) hS (fun _ _ h => h) (fun _ h => h) (fun M46 t H locs ht hvm hw hB hz1 hk1 hS => ?_)
          have eM46 : M46 = q_X11_keep M p1 := hw
          clear hw
          have hW : gW E M46 S H := by rw [← ht]; exact hB
          refine lv_aload_n hx hb dX11_dial_49 rfl (lv_at hl 0 rfl) ?_
          refine lv_iload_n hx hb dX11_dial_50 rfl (lv_at hl 1 rfl) ?_
          refine lv_iconst (v := 0) hx hb dX11_dial_51 (by decide) ?_
          refine lv_iconst (v := 2) hx hb dX11_dial_52 (by decide) ?_
          refine lv_iload_n hx hb dX11_dial_53 rfl (lv_at hl 2 rfl) ?_
          refine lv_iadd hx hb dX11_dial_54 ?_
          refine va_callv (va_runV (As := [.int (p1), .int (0), .int (2 + p2)]) (rest := []) ⟨hx, hb, hml, hown, hts⟩ (c_X11_put l E M46 S p1 0 (2 + p2) (gx (isPm_of er1 c4) (by decide))) (cwV 3 hts gX11_dial_X11_put rfl rfl rfl (by decide +kernel) ⟨Nat.le_of_ble_eq_true rfl, Nat.le_of_ble_eq_true rfl⟩) (gP.V (ci := 10) (q := (RX11, TX11, 23)) (q0 := 0) hE hS hW rfl rfl) rfl rfl hl.1 rfl (lv_room (Nat.le_of_ble_eq_true rfl)) dX11_dial_55 ⟨Nat.le_of_ble_eq_true rfl, Nat.le_of_ble_eq_true rfl⟩) hS (fun _ _ h => h) (fun _ h => h) (fun M55 t H locs ht hvm hw hB hz1 hk1 hS => ?_)
          have eM55 : M55 = q_X11_put M46 p1 0 (2 + p2) := hw
          clear hw
          have hW : gW E M55 S H := by rw [← ht]; exact hB
          refine lv_aload_n hx hb dX11_dial_58 rfl (lv_at hl 0 rfl) ?_
          refine lv_iload_n hx hb dX11_dial_59 rfl (lv_at hl 1 rfl) ?_
          refine lv_iconst (v := 1) hx hb dX11_dial_60 (by decide) ?_
          refine lv_iload_n hx hb dX11_dial_61 rfl (lv_at hl 3 rfl) ?_
          refine va_callv (va_runV (As := [.int (p1), .int (1), .int (p3)]) (rest := []) ⟨hx, hb, hml, hown, hts⟩ (c_X11_put l E M55 S p1 1 p3 (gx (isPm_of er1 c4) (by decide))) (cwV 3 hts gX11_dial_X11_put rfl rfl rfl (by decide +kernel) ⟨Nat.le_of_ble_eq_true rfl, Nat.le_of_ble_eq_true rfl⟩) (gP.V (ci := 10) (q := (RX11, TX11, 23)) (q0 := 0) hE hS hW rfl rfl) rfl rfl hl.1 rfl (lv_room (Nat.le_of_ble_eq_true rfl)) dX11_dial_62 ⟨Nat.le_of_ble_eq_true rfl, Nat.le_of_ble_eq_true rfl⟩) hS (fun _ _ h => h) (fun _ h => h) (fun M62 t H locs ht hvm hw hB hz1 hk1 hS => ?_)
          have eM62 : M62 = q_X11_put M55 p1 1 p3 := hw
          clear hw
          have hW : gW E M62 S H := by rw [← ht]; exact hB
          refine lv_aload_n hx hb dX11_dial_65 rfl (lv_at hl 0 rfl) ?_
          refine lv_iload_n hx hb dX11_dial_66 rfl (lv_at hl 1 rfl) ?_
          refine lv_iconst (v := 2) hx hb dX11_dial_67 (by decide) ?_
          refine lv_iload hx hb dX11_dial_68 (lv_at hl 4 rfl) ?_
          refine va_callv (va_runV (As := [.int (p1), .int (2), .int (p4)]) (rest := []) ⟨hx, hb, hml, hown, hts⟩ (c_X11_put l E M62 S p1 2 p4 (gx (isPm_of er1 c4) (by decide))) (cwV 3 hts gX11_dial_X11_put rfl rfl rfl (by decide +kernel) ⟨Nat.le_of_ble_eq_true rfl, Nat.le_of_ble_eq_true rfl⟩) (gP.V (ci := 10) (q := (RX11, TX11, 23)) (q0 := 0) hE hS hW rfl rfl) rfl rfl hl.1 rfl (lv_room (Nat.le_of_ble_eq_true rfl)) dX11_dial_70 ⟨Nat.le_of_ble_eq_true rfl, Nat.le_of_ble_eq_true rfl⟩) hS (fun _ _ h => h) (fun _ h => h) (fun M70 t H locs ht hvm hw hB hz1 hk1 hS => ?_)
          have eM70 : M70 = q_X11_put M62 p1 2 p4 := hw
          clear hw
          have hW : gW E M70 S H := by rw [← ht]; exact hB
          refine lv_aload_n hx hb dX11_dial_73 rfl (lv_at hl 0 rfl) ?_
          refine lv_iload_n hx hb dX11_dial_74 rfl (lv_at hl 1 rfl) ?_
          refine lv_iconst (v := 3) hx hb dX11_dial_75 (by decide) ?_
          refine lv_iload hx hb dX11_dial_76 (lv_at hl 5 rfl) ?_
          refine va_callv (va_runV (As := [.int (p1), .int (3), .int (p5)]) (rest := []) ⟨hx, hb, hml, hown, hts⟩ (c_X11_put l E M70 S p1 3 p5 (gx (isPm_of er1 c4) (by decide))) (cwV 3 hts gX11_dial_X11_put rfl rfl rfl (by decide +kernel) ⟨Nat.le_of_ble_eq_true rfl, Nat.le_of_ble_eq_true rfl⟩) (gP.V (ci := 10) (q := (RX11, TX11, 23)) (q0 := 0) hE hS hW rfl rfl) rfl rfl hl.1 rfl (lv_room (Nat.le_of_ble_eq_true rfl)) dX11_dial_78 ⟨Nat.le_of_ble_eq_true rfl, Nat.le_of_ble_eq_true rfl⟩) hS (fun _ _ h => h) (fun _ h => h) (fun M78 t H locs ht hvm hw hB hz1 hk1 hS => ?_)
          have eM78 : M78 = q_X11_put M70 p1 3 p5 := hw
          clear hw
          have hW : gW E M78 S H := by rw [← ht]; exact hB
          refine lv_aload_n hx hb dX11_dial_81 rfl (lv_at hl 0 rfl) ?_
          refine lv_iload_n hx hb dX11_dial_82 rfl (lv_at hl 1 rfl) ?_
          refine lv_iconst (v := 4) hx hb dX11_dial_83 (by decide) ?_
          refine lv_iconst (v := 0) hx hb dX11_dial_84 (by decide) ?_
          refine va_callv (va_runV (As := [.int (p1), .int (4), .int (0)]) (rest := []) ⟨hx, hb, hml, hown, hts⟩ (c_X11_put l E M78 S p1 4 0 (gx (isPm_of er1 c4) (by decide))) (cwV 3 hts gX11_dial_X11_put rfl rfl rfl (by decide +kernel) ⟨Nat.le_of_ble_eq_true rfl, Nat.le_of_ble_eq_true rfl⟩) (gP.V (ci := 10) (q := (RX11, TX11, 23)) (q0 := 0) hE hS hW rfl rfl) rfl rfl hl.1 rfl (lv_room (Nat.le_of_ble_eq_true rfl)) dX11_dial_85 ⟨Nat.le_of_ble_eq_true rfl, Nat.le_of_ble_eq_true rfl⟩) hS (fun _ _ h => h) (fun _ h => h) (fun M85 t H locs ht hvm hw hB hz1 hk1 hS => ?_)
          have eM85 : M85 = q_X11_put M78 p1 4 0 := hw
          clear hw
          have hW : gW E M85 S H := by rw [← ht]; exact hB
          refine lv_aload_n hx hb dX11_dial_88 rfl (lv_at hl 0 rfl) ?_
          refine lv_iload_n hx hb dX11_dial_89 rfl (lv_at hl 1 rfl) ?_
          refine lv_iconst (v := 5) hx hb dX11_dial_90 (by decide) ?_
          refine lv_sipush (v := 8192) hx hb dX11_dial_91 (by decide) ?_
          refine va_callv (va_runV (As := [.int (p1), .int (5), .int (8192)]) (rest := []) ⟨hx, hb, hml, hown, hts⟩ (c_X11_put l E M85 S p1 5 8192 (gx (isPm_of er1 c4) (by decide))) (cwV 3 hts gX11_dial_X11_put rfl rfl rfl (by decide +kernel) ⟨Nat.le_of_ble_eq_true rfl, Nat.le_of_ble_eq_true rfl⟩) (gP.V (ci := 10) (q := (RX11, TX11, 23)) (q0 := 0) hE hS hW rfl rfl) rfl rfl hl.1 rfl (lv_room (Nat.le_of_ble_eq_true rfl)) dX11_dial_94 ⟨Nat.le_of_ble_eq_true rfl, Nat.le_of_ble_eq_true rfl⟩) hS (fun _ _ h => h) (fun _ h => h) (fun M94 t H locs ht hvm hw hB hz1 hk1 hS => ?_)
          have eM94 : M94 = q_X11_put M85 p1 5 8192 := hw
          clear hw
          have hW : gW E M94 S H := by rw [← ht]; exact hB
          refine lv_aload_n hx hb dX11_dial_97 rfl (lv_at hl 0 rfl) ?_
          refine lv_iload_n hx hb dX11_dial_98 rfl (lv_at hl 1 rfl) ?_
          refine lv_bipush (v := 6) hx hb dX11_dial_99 (by decide) ?_
          refine lv_ldc hx hb (v := 16777215) hown (hts (.constant RX11 161 (16777215)) (by decide +kernel)) dX11_dial_101 ?_
          refine va_callv (va_runV (As := [.int (p1), .int (6), .int (16777215)]) (rest := []) ⟨hx, hb, hml, hown, hts⟩ (c_X11_put l E M94 S p1 6 16777215 (gx (isPm_of er1 c4) (by decide))) (cwV 3 hts gX11_dial_X11_put rfl rfl rfl (by decide +kernel) ⟨Nat.le_of_ble_eq_true rfl, Nat.le_of_ble_eq_true rfl⟩) (gP.V (ci := 10) (q := (RX11, TX11, 23)) (q0 := 0) hE hS hW rfl rfl) rfl rfl hl.1 rfl (lv_room (Nat.le_of_ble_eq_true rfl)) dX11_dial_103 ⟨Nat.le_of_ble_eq_true rfl, Nat.le_of_ble_eq_true rfl⟩) hS (fun _ _ h => h) (fun _ h => h) (fun M103 t H locs ht hvm hw hB hz1 hk1 hS => ?_)
          have eM103 : M103 = q_X11_put M94 p1 6 16777215 := hw
          clear hw
          have hW : gW E M103 S H := by rw [← ht]; exact hB
          refine lv_iconst (v := 0) hx hb dX11_dial_106 (by decide) ?_
          exact W.iret (v := 0) hx hb hr (fun t ht _ => ⟨⟨0, M103, rfl, by subst eM103; subst eM94; subst eM85; subst eM78; subst eM70; subst eM62; subst eM55; subst eM46; subst er35; subst er22; subst er13; subst er1; first | (simp only [q_X11_dial, if_neg c4, if_neg c16, if_neg c25, if_neg c38]; done) | contradiction, by dsimp only; rw [ht]; exact hW⟩, hS.F ht⟩) hS.2.2 dX11_dial_107
        · refine lv_ldc hx hb (v := (-2000000001)) hown (hts (.constant RX11 73 (-2000000001)) (by decide +kernel)) dX11_dial_41 ?_
          exact W.iret (v := (-2000000001)) hx hb hr (fun t ht _ => ⟨⟨(-2000000001), M, rfl, by subst er35; subst er22; subst er13; subst er1; first | (simp only [q_X11_dial, if_neg c4, if_neg c16, if_neg c25, if_pos c38]; done) | contradiction, by dsimp only; rw [ht]; exact hW⟩, hS.F ht⟩) hS.2.2 dX11_dial_43

def q_X11_house (M : gSm) (p1 : Int32) (p2 : Int32) (p3 : Int32) (p4 : Int64) (p5 : Int32) : Int32 × gSm := (let r1 := q_X11_isPlace p1; (if r1 = 0 then ((-2000000001), M) else (let r9 := q_X11_isSpot p2 p3; (if r9 = 0 then ((-2000000001), M) else (let r21 := q_X11_isIn p4 0 1073741823; (if r21 = 0 then ((-2000000001), M) else (let r34 := q_X11_isIn (p5.toInt64) 1 10000; (if r34 = 0 then ((-2000000001), M) else (let x54 := ((p4 / 32768).toInt32) - 16384; (let x67 := ((p4 - p4 / 32768 * 32768).toInt32) - 16384; (let r73 := q_X11_isSpot x54 x67; (if r73 = 0 then ((-2000000001), M) else (if p2 = x54 then (if p3 = x67 then ((-2000000001), M) else (let M96 := q_X11_keep M p1; (let M103 := q_X11_put M96 p1 0 1; (let M110 := q_X11_put M103 p1 1 p2; (let M117 := q_X11_put M110 p1 2 p3; (let M125 := q_X11_put M117 p1 3 x54; (let M133 := q_X11_put M125 p1 4 x67; (let M141 := q_X11_put M133 p1 5 p5; (0, M141))))))))) else (let M96 := q_X11_keep M p1; (let M103 := q_X11_put M96 p1 0 1; (let M110 := q_X11_put M103 p1 1 p2; (let M117 := q_X11_put M110 p1 2 p3; (let M125 := q_X11_put M117 p1 3 x54; (let M133 := q_X11_put M125 p1 4 x67; (let M141 := q_X11_put M133 p1 5 p5; (0, M141)))))))))))))))))))))
set_option maxHeartbeats 4000000 in
set_option maxRecDepth 100000 in
theorem c_X11_house (l : Launch) (E : gEE) (M : gSm) (S : gSc) (p1 : Int32) (p2 : Int32) (p3 : Int32) (p4 : Int64) (p5 : Int32) (hk0 : 0 ≤ (M.1 0 3).toInt) (hk : (M.1 0 3).toInt ≤ 16) : Met l yX11_house wsX11_house ({ frames := 2, cells := 0, slots := 0, locals := 46 }) (va_Pc [.ref (eM E 0), .int (p1), .int (p2), .int (p3), .long (p4), .int (p5)] (gP E M S)) (va_Qi (fun r (u : gSm) => (r, u) = q_X11_house M p1 p2 p3 p4 p5) (fun u t => gW E u S t.heap) (eA E)) 0 0 (eA E) := by
  refine Met.ofW (cc := cX11_house) (maxL := 9) (ret := (some .int)) (by decide) rfl ?_
  intro p e s m args below meth c s₁ B hml hv
  obtain ⟨rfl, hE, hW⟩ := hv
  have hx := B.exec
  have hb := B.bytes
  have hr := B.returns
  have hts := atoms_spec (ws := wsX11_house) B.pre
  have hown : s.vm.findClass RX11 = some m.cls := findClass_of_methodNamed B.named
  have hlocks := B.notSynchronized
  have hS : va_S (eA E) s.heap s.heap [] := va_S.rf
  have hl := lv_entry ([.ref (eM E 0), .int (p1), .int (p2), .int (p3), .long (p4), .int (p5)]) (n := 9) (Nat.le_of_ble_eq_true rfl)
  rw [lg_entry_eq]
  generalize (lg_sl ([.ref (eM E 0), .int (p1), .int (p2), .int (p3), .long (p4), .int (p5)]) ++ List.replicate (9 - (lg_sl ([.ref (eM E 0), .int (p1), .int (p2), .int (p3), .long (p4), .int (p5)])).length) Slot.unset).toArray = ls at hl ⊢
  have hl : lv_has ls 9 [(0, .ref (eM E 0)), (1, .int (p1)), (2, .int (p2)), (3, .int (p3)), (4, .long (p4)), (6, .int (p5))] := hl
  have hS : ∃ (H : Heap) (locs : List Loc), H = s.heap ∧ locs = [] ∧ gW E M S H ∧ va_S (eA E) s.heap H locs := ⟨_, _, rfl, rfl, hW, hS⟩
  clear hW
  obtain ⟨H, locs, eH, el, hW, hS⟩ := hS
  rw [← eH, ← el]
  clear eH el
  refine lv_iload_n hx hb dX11_house_0 rfl (lv_at hl 1 rfl) ?_
  refine k_Si (va_runS (As := [.int (p1)]) (rest := []) ⟨hx, hb, hml, hown, hts⟩ (c_X11_isPlace l p1) (va_cwS 1 hts gX11_house_X11_isPlace rfl rfl rfl (by decide +kernel) ⟨Nat.le_of_ble_eq_true rfl, Nat.le_of_ble_eq_true rfl⟩) gP0 rfl rfl hl.1 rfl (lv_room (Nat.le_of_ble_eq_true rfl)) dX11_house_1 ⟨Nat.le_of_ble_eq_true rfl, Nat.le_of_ble_eq_true rfl⟩) (fun r1 er1 => ?_)
  refine lv_if_eq (tgt := 40) hx hb dX11_house_4 (by decide) (fun c4 => ?_) (fun c4 => ?_)
  · refine lv_ldc hx hb (v := (-2000000001)) hown (hts (.constant RX11 73 (-2000000001)) (by decide +kernel)) dX11_house_40 ?_
    exact W.iret (v := (-2000000001)) hx hb hr (fun t ht _ => ⟨⟨(-2000000001), M, rfl, by subst er1; first | (simp only [q_X11_house, if_pos c4]; done) | contradiction, by dsimp only; rw [ht]; exact hW⟩, hS.F ht⟩) hS.2.2 dX11_house_42
  · refine lv_iload_n hx hb dX11_house_7 rfl (lv_at hl 2 rfl) ?_
    refine lv_iload_n hx hb dX11_house_8 rfl (lv_at hl 3 rfl) ?_
    refine k_Si (va_runS (As := [.int (p2), .int (p3)]) (rest := []) ⟨hx, hb, hml, hown, hts⟩ (c_X11_isSpot l p2 p3) (va_cwS 2 hts gX11_house_X11_isSpot rfl rfl rfl (by decide +kernel) ⟨Nat.le_of_ble_eq_true rfl, Nat.le_of_ble_eq_true rfl⟩) gP0 rfl rfl hl.1 rfl (lv_room (Nat.le_of_ble_eq_true rfl)) dX11_house_9 ⟨Nat.le_of_ble_eq_true rfl, Nat.le_of_ble_eq_true rfl⟩) (fun r9 er9 => ?_)
    refine lv_if_eq (tgt := 40) hx hb dX11_house_12 (by decide) (fun c12 => ?_) (fun c12 => ?_)
    · refine lv_ldc hx hb (v := (-2000000001)) hown (hts (.constant RX11 73 (-2000000001)) (by decide +kernel)) dX11_house_40 ?_
      exact W.iret (v := (-2000000001)) hx hb hr (fun t ht _ => ⟨⟨(-2000000001), M, rfl, by subst er9; subst er1; first | (simp only [q_X11_house, if_neg c4, if_pos c12]; done) | contradiction, by dsimp only; rw [ht]; exact hW⟩, hS.F ht⟩) hS.2.2 dX11_house_42
    · refine lv_lload hx hb dX11_house_15 (lv_at hl 4 rfl) ?_
      refine lv_lconst (v := 0) hx hb dX11_house_17 (by decide) ?_
      refine lv_ldc2 hx hb (v := 1073741823) hown (hts (.constantLong RX11 162 (1073741823)) (by decide +kernel)) dX11_house_18 ?_
      refine k_Si (va_runS (As := [.long (p4), .long (0), .long (1073741823)]) (rest := []) ⟨hx, hb, hml, hown, hts⟩ (c_X11_isIn l p4 0 1073741823) (va_cwS 3 hts gX11_house_X11_isIn rfl rfl rfl (by decide +kernel) ⟨Nat.le_of_ble_eq_true rfl, Nat.le_of_ble_eq_true rfl⟩) gP0 rfl rfl hl.1 rfl (lv_room (Nat.le_of_ble_eq_true rfl)) dX11_house_21 ⟨Nat.le_of_ble_eq_true rfl, Nat.le_of_ble_eq_true rfl⟩) (fun r21 er21 => ?_)
      refine lv_if_eq (tgt := 40) hx hb dX11_house_24 (by decide) (fun c24 => ?_) (fun c24 => ?_)
      · refine lv_ldc hx hb (v := (-2000000001)) hown (hts (.constant RX11 73 (-2000000001)) (by decide +kernel)) dX11_house_40 ?_
        exact W.iret (v := (-2000000001)) hx hb hr (fun t ht _ => ⟨⟨(-2000000001), M, rfl, by subst er21; subst er9; subst er1; first | (simp only [q_X11_house, if_neg c4, if_neg c12, if_pos c24]; done) | contradiction, by dsimp only; rw [ht]; exact hW⟩, hS.F ht⟩) hS.2.2 dX11_house_42
      · refine lv_iload hx hb dX11_house_27 (lv_at hl 5 rfl) ?_
        refine lv_i2l (v := p5.toInt64) hx hb dX11_house_29 rfl ?_
        refine lv_lconst (v := 1) hx hb dX11_house_30 (by decide) ?_
        refine lv_ldc2 hx hb (v := 10000) hown (hts (.constantLong RX11 135 (10000)) (by decide +kernel)) dX11_house_31 ?_
        refine k_Si (va_runS (As := [.long (p5.toInt64), .long (1), .long (10000)]) (rest := []) ⟨hx, hb, hml, hown, hts⟩ (c_X11_isIn l (p5.toInt64) 1 10000) (va_cwS 3 hts gX11_house_X11_isIn rfl rfl rfl (by decide +kernel) ⟨Nat.le_of_ble_eq_true rfl, Nat.le_of_ble_eq_true rfl⟩) gP0 rfl rfl hl.1 rfl (lv_room (Nat.le_of_ble_eq_true rfl)) dX11_house_34 ⟨Nat.le_of_ble_eq_true rfl, Nat.le_of_ble_eq_true rfl⟩) (fun r34 er34 => ?_)
        refine lv_if_ne (tgt := 43) hx hb dX11_house_37 (by decide) (fun c37 => ?_) (fun c37 => ?_)
        · refine lv_lload hx hb dX11_house_43 (lv_at hl 4 rfl) ?_
          refine lv_ldc2 hx hb (v := 32768) hown (hts (.constantLong RX11 51 (32768)) (by decide +kernel)) dX11_house_45 ?_
          refine lv_ldiv hx hb dX11_house_48 (by decide) ?_
          refine lv_l2i (v := (p4 / 32768).toInt32) hx hb dX11_house_49 rfl ?_
          refine lv_sipush (v := 16384) hx hb dX11_house_50 (by decide) ?_
          refine lv_isub hx hb dX11_house_53 ?_
          refine lv_topi (fun x54 ex54 => ?_)
          refine lv_istore (lv' := [(7, .int (x54)), (0, .ref (eM E 0)), (1, .int (p1)), (2, .int (p2)), (3, .int (p3)), (4, .long (p4)), (6, .int (p5))]) hx hb dX11_house_54 hl (by decide) rfl (fun ls hl => ?_)
          refine lv_lload hx hb dX11_house_56 (lv_at hl 5 rfl) ?_
          refine lv_ldc2 hx hb (v := 32768) hown (hts (.constantLong RX11 51 (32768)) (by decide +kernel)) dX11_house_58 ?_
          refine lv_lrem hx hb dX11_house_61 (by decide) ?_
          refine lv_l2i (v := (p4 - p4 / 32768 * 32768).toInt32) hx hb dX11_house_62 rfl ?_
          refine lv_sipush (v := 16384) hx hb dX11_house_63 (by decide) ?_
          refine lv_isub hx hb dX11_house_66 ?_
          refine lv_topi (fun x67 ex67 => ?_)
          refine lv_istore (lv' := [(8, .int (x67)), (7, .int (x54)), (0, .ref (eM E 0)), (1, .int (p1)), (2, .int (p2)), (3, .int (p3)), (4, .long (p4)), (6, .int (p5))]) hx hb dX11_house_67 hl (by decide) rfl (fun ls hl => ?_)
          refine lv_iload hx hb dX11_house_69 (lv_at hl 1 rfl) ?_
          refine lv_iload hx hb dX11_house_71 (lv_at hl 0 rfl) ?_
          refine k_Si (va_runS (As := [.int (x54), .int (x67)]) (rest := []) ⟨hx, hb, hml, hown, hts⟩ (c_X11_isSpot l x54 x67) (va_cwS 2 hts gX11_house_X11_isSpot rfl rfl rfl (by decide +kernel) ⟨Nat.le_of_ble_eq_true rfl, Nat.le_of_ble_eq_true rfl⟩) gP0 rfl rfl hl.1 rfl (lv_room (Nat.le_of_ble_eq_true rfl)) dX11_house_73 ⟨Nat.le_of_ble_eq_true rfl, Nat.le_of_ble_eq_true rfl⟩) (fun r73 er73 => ?_)
          refine lv_if_eq (tgt := 91) hx hb dX11_house_76 (by decide) (fun c76 => ?_) (fun c76 => ?_)
          · refine lv_ldc hx hb (v := (-2000000001)) hown (hts (.constant RX11 73 (-2000000001)) (by decide +kernel)) dX11_house_91 ?_
            exact W.iret (v := (-2000000001)) hx hb hr (fun t ht _ => ⟨⟨(-2000000001), M, rfl, by subst er73; subst ex67; subst ex54; subst er34; subst er21; subst er9; subst er1; first | (simp only [q_X11_house, if_neg c4, if_neg c12, if_neg c24, if_neg c37, if_pos c76]; done) | contradiction, by dsimp only; rw [ht]; exact hW⟩, hS.F ht⟩) hS.2.2 dX11_house_93
          · refine lv_iload_n hx hb dX11_house_79 rfl (lv_at hl 4 rfl) ?_
            refine lv_iload hx hb dX11_house_80 (lv_at hl 1 rfl) ?_
            refine lv_icmp_ne (tgt := 94) hx hb dX11_house_82 (by decide) (fun c82 => ?_) (fun c82 => ?_)
            · refine lv_aload_n hx hb dX11_house_94 rfl (lv_at hl 2 rfl) ?_
              refine lv_iload_n hx hb dX11_house_95 rfl (lv_at hl 3 rfl) ?_
              refine va_callv (va_runV (As := [.int (p1)]) (rest := []) ⟨hx, hb, hml, hown, hts⟩ (c_X11_keep l E M S p1 (isPm_of er1 c4) hk0 hk) (cwV 1 hts gX11_house_X11_keep rfl rfl rfl (by decide +kernel) ⟨Nat.le_of_ble_eq_true rfl, Nat.le_of_ble_eq_true rfl⟩) (gP.V (ci := 10) (q := (RX11, TX11, 23)) (q0 := 0) hE hS hW rfl rfl) rfl rfl hl.1 rfl (lv_room (Nat.le_of_ble_eq_true rfl)) dX11_house_96 ⟨Nat.le_of_ble_eq_true rfl, Nat.le_of_ble_eq_true rfl⟩) hS (fun _ _ h => h) (fun _ h => h) (fun M96 t H locs ht hvm hw hB hz1 hk1 hS => ?_)
              have eM96 : M96 = q_X11_keep M p1 := hw
              clear hw
              have hW : gW E M96 S H := by rw [← ht]; exact hB
              refine lv_aload_n hx hb dX11_house_99 rfl (lv_at hl 2 rfl) ?_
              refine lv_iload_n hx hb dX11_house_100 rfl (lv_at hl 3 rfl) ?_
              refine lv_iconst (v := 0) hx hb dX11_house_101 (by decide) ?_
              refine lv_iconst (v := 1) hx hb dX11_house_102 (by decide) ?_
              refine va_callv (va_runV (As := [.int (p1), .int (0), .int (1)]) (rest := []) ⟨hx, hb, hml, hown, hts⟩ (c_X11_put l E M96 S p1 0 1 (gx (isPm_of er1 c4) (by decide))) (cwV 3 hts gX11_house_X11_put rfl rfl rfl (by decide +kernel) ⟨Nat.le_of_ble_eq_true rfl, Nat.le_of_ble_eq_true rfl⟩) (gP.V (ci := 10) (q := (RX11, TX11, 23)) (q0 := 0) hE hS hW rfl rfl) rfl rfl hl.1 rfl (lv_room (Nat.le_of_ble_eq_true rfl)) dX11_house_103 ⟨Nat.le_of_ble_eq_true rfl, Nat.le_of_ble_eq_true rfl⟩) hS (fun _ _ h => h) (fun _ h => h) (fun M103 t H locs ht hvm hw hB hz1 hk1 hS => ?_)
              have eM103 : M103 = q_X11_put M96 p1 0 1 := hw
              clear hw
              have hW : gW E M103 S H := by rw [← ht]; exact hB
              refine lv_aload_n hx hb dX11_house_106 rfl (lv_at hl 2 rfl) ?_
              refine lv_iload_n hx hb dX11_house_107 rfl (lv_at hl 3 rfl) ?_
              refine lv_iconst (v := 1) hx hb dX11_house_108 (by decide) ?_
              refine lv_iload_n hx hb dX11_house_109 rfl (lv_at hl 4 rfl) ?_
              refine va_callv (va_runV (As := [.int (p1), .int (1), .int (p2)]) (rest := []) ⟨hx, hb, hml, hown, hts⟩ (c_X11_put l E M103 S p1 1 p2 (gx (isPm_of er1 c4) (by decide))) (cwV 3 hts gX11_house_X11_put rfl rfl rfl (by decide +kernel) ⟨Nat.le_of_ble_eq_true rfl, Nat.le_of_ble_eq_true rfl⟩) (gP.V (ci := 10) (q := (RX11, TX11, 23)) (q0 := 0) hE hS hW rfl rfl) rfl rfl hl.1 rfl (lv_room (Nat.le_of_ble_eq_true rfl)) dX11_house_110 ⟨Nat.le_of_ble_eq_true rfl, Nat.le_of_ble_eq_true rfl⟩) hS (fun _ _ h => h) (fun _ h => h) (fun M110 t H locs ht hvm hw hB hz1 hk1 hS => ?_)
              have eM110 : M110 = q_X11_put M103 p1 1 p2 := hw
              clear hw
              have hW : gW E M110 S H := by rw [← ht]; exact hB
              refine lv_aload_n hx hb dX11_house_113 rfl (lv_at hl 2 rfl) ?_
              refine lv_iload_n hx hb dX11_house_114 rfl (lv_at hl 3 rfl) ?_
              refine lv_iconst (v := 2) hx hb dX11_house_115 (by decide) ?_
              refine lv_iload_n hx hb dX11_house_116 rfl (lv_at hl 5 rfl) ?_
              refine va_callv (va_runV (As := [.int (p1), .int (2), .int (p3)]) (rest := []) ⟨hx, hb, hml, hown, hts⟩ (c_X11_put l E M110 S p1 2 p3 (gx (isPm_of er1 c4) (by decide))) (cwV 3 hts gX11_house_X11_put rfl rfl rfl (by decide +kernel) ⟨Nat.le_of_ble_eq_true rfl, Nat.le_of_ble_eq_true rfl⟩) (gP.V (ci := 10) (q := (RX11, TX11, 23)) (q0 := 0) hE hS hW rfl rfl) rfl rfl hl.1 rfl (lv_room (Nat.le_of_ble_eq_true rfl)) dX11_house_117 ⟨Nat.le_of_ble_eq_true rfl, Nat.le_of_ble_eq_true rfl⟩) hS (fun _ _ h => h) (fun _ h => h) (fun M117 t H locs ht hvm hw hB hz1 hk1 hS => ?_)
              have eM117 : M117 = q_X11_put M110 p1 2 p3 := hw
              clear hw
              have hW : gW E M117 S H := by rw [← ht]; exact hB
              refine lv_aload_n hx hb dX11_house_120 rfl (lv_at hl 2 rfl) ?_
              refine lv_iload_n hx hb dX11_house_121 rfl (lv_at hl 3 rfl) ?_
              refine lv_iconst (v := 3) hx hb dX11_house_122 (by decide) ?_
              refine lv_iload hx hb dX11_house_123 (lv_at hl 1 rfl) ?_
              refine va_callv (va_runV (As := [.int (p1), .int (3), .int (x54)]) (rest := []) ⟨hx, hb, hml, hown, hts⟩ (c_X11_put l E M117 S p1 3 x54 (gx (isPm_of er1 c4) (by decide))) (cwV 3 hts gX11_house_X11_put rfl rfl rfl (by decide +kernel) ⟨Nat.le_of_ble_eq_true rfl, Nat.le_of_ble_eq_true rfl⟩) (gP.V (ci := 10) (q := (RX11, TX11, 23)) (q0 := 0) hE hS hW rfl rfl) rfl rfl hl.1 rfl (lv_room (Nat.le_of_ble_eq_true rfl)) dX11_house_125 ⟨Nat.le_of_ble_eq_true rfl, Nat.le_of_ble_eq_true rfl⟩) hS (fun _ _ h => h) (fun _ h => h) (fun M125 t H locs ht hvm hw hB hz1 hk1 hS => ?_)
              have eM125 : M125 = q_X11_put M117 p1 3 x54 := hw
              clear hw
              have hW : gW E M125 S H := by rw [← ht]; exact hB
              refine lv_aload_n hx hb dX11_house_128 rfl (lv_at hl 2 rfl) ?_
              refine lv_iload_n hx hb dX11_house_129 rfl (lv_at hl 3 rfl) ?_
              refine lv_iconst (v := 4) hx hb dX11_house_130 (by decide) ?_
              refine lv_iload hx hb dX11_house_131 (lv_at hl 0 rfl) ?_
              refine va_callv (va_runV (As := [.int (p1), .int (4), .int (x67)]) (rest := []) ⟨hx, hb, hml, hown, hts⟩ (c_X11_put l E M125 S p1 4 x67 (gx (isPm_of er1 c4) (by decide))) (cwV 3 hts gX11_house_X11_put rfl rfl rfl (by decide +kernel) ⟨Nat.le_of_ble_eq_true rfl, Nat.le_of_ble_eq_true rfl⟩) (gP.V (ci := 10) (q := (RX11, TX11, 23)) (q0 := 0) hE hS hW rfl rfl) rfl rfl hl.1 rfl (lv_room (Nat.le_of_ble_eq_true rfl)) dX11_house_133 ⟨Nat.le_of_ble_eq_true rfl, Nat.le_of_ble_eq_true rfl⟩) hS (fun _ _ h => h) (fun _ h => h) (fun M133 t H locs ht hvm hw hB hz1 hk1 hS => ?_)
              have eM133 : M133 = q_X11_put M125 p1 4 x67 := hw
              clear hw
              have hW : gW E M133 S H := by rw [← ht]; exact hB
              refine lv_aload_n hx hb dX11_house_136 rfl (lv_at hl 2 rfl) ?_
              refine lv_iload_n hx hb dX11_house_137 rfl (lv_at hl 3 rfl) ?_
              refine lv_iconst (v := 5) hx hb dX11_house_138 (by decide) ?_
              refine lv_iload hx hb dX11_house_139 (lv_at hl 7 rfl) ?_
              refine va_callv (va_runV (As := [.int (p1), .int (5), .int (p5)]) (rest := []) ⟨hx, hb, hml, hown, hts⟩ (c_X11_put l E M133 S p1 5 p5 (gx (isPm_of er1 c4) (by decide))) (cwV 3 hts gX11_house_X11_put rfl rfl rfl (by decide +kernel) ⟨Nat.le_of_ble_eq_true rfl, Nat.le_of_ble_eq_true rfl⟩) (gP.V (ci := 10) (q := (RX11, TX11, 23)) (q0 := 0) hE hS hW rfl rfl) rfl rfl hl.1 rfl (lv_room (Nat.le_of_ble_eq_true rfl)) dX11_house_141 ⟨Nat.le_of_ble_eq_true rfl, Nat.le_of_ble_eq_true rfl⟩) hS (fun _ _ h => h) (fun _ h => h) (fun M141 t H locs ht hvm hw hB hz1 hk1 hS => ?_)
              have eM141 : M141 = q_X11_put M133 p1 5 p5 := hw
              clear hw
              have hW : gW E M141 S H := by rw [← ht]; exact hB
              refine lv_iconst (v := 0) hx hb dX11_house_144 (by decide) ?_
              exact W.iret (v := 0) hx hb hr (fun t ht _ => ⟨⟨0, M141, rfl, by subst eM141; subst eM133; subst eM125; subst eM117; subst eM110; subst eM103; subst eM96; subst er73; subst ex67; subst ex54; subst er34; subst er21; subst er9; subst er1; first | (simp only [q_X11_house, if_neg c4, if_neg c12, if_neg c24, if_neg c37, if_neg c76, if_neg c82]; done) | contradiction, by dsimp only; rw [ht]; exact hW⟩, hS.F ht⟩) hS.2.2 dX11_house_145
            · refine lv_iload_n hx hb dX11_house_85 rfl (lv_at hl 5 rfl) ?_
              refine lv_iload hx hb dX11_house_86 (lv_at hl 0 rfl) ?_
              refine lv_icmp_ne (tgt := 94) hx hb dX11_house_88 (by decide) (fun c88 => ?_) (fun c88 => ?_)
              · refine lv_aload_n hx hb dX11_house_94 rfl (lv_at hl 2 rfl) ?_
                refine lv_iload_n hx hb dX11_house_95 rfl (lv_at hl 3 rfl) ?_
                refine va_callv (va_runV (As := [.int (p1)]) (rest := []) ⟨hx, hb, hml, hown, hts⟩ (c_X11_keep l E M S p1 (isPm_of er1 c4) hk0 hk) (cwV 1 hts gX11_house_X11_keep rfl rfl rfl (by decide +kernel) ⟨Nat.le_of_ble_eq_true rfl, Nat.le_of_ble_eq_true rfl⟩) (gP.V (ci := 10) (q := (RX11, TX11, 23)) (q0 := 0) hE hS hW rfl rfl) rfl rfl hl.1 rfl (lv_room (Nat.le_of_ble_eq_true rfl)) dX11_house_96 ⟨Nat.le_of_ble_eq_true rfl, Nat.le_of_ble_eq_true rfl⟩) hS (fun _ _ h => h) (fun _ h => h) (fun M96 t H locs ht hvm hw hB hz1 hk1 hS => ?_)
                have eM96 : M96 = q_X11_keep M p1 := hw
                clear hw
                have hW : gW E M96 S H := by rw [← ht]; exact hB
                refine lv_aload_n hx hb dX11_house_99 rfl (lv_at hl 2 rfl) ?_
                refine lv_iload_n hx hb dX11_house_100 rfl (lv_at hl 3 rfl) ?_
                refine lv_iconst (v := 0) hx hb dX11_house_101 (by decide) ?_
                refine lv_iconst (v := 1) hx hb dX11_house_102 (by decide) ?_
                refine va_callv (va_runV (As := [.int (p1), .int (0), .int (1)]) (rest := []) ⟨hx, hb, hml, hown, hts⟩ (c_X11_put l E M96 S p1 0 1 (gx (isPm_of er1 c4) (by decide))) (cwV 3 hts gX11_house_X11_put rfl rfl rfl (by decide +kernel) ⟨Nat.le_of_ble_eq_true rfl, Nat.le_of_ble_eq_true rfl⟩) (gP.V (ci := 10) (q := (RX11, TX11, 23)) (q0 := 0) hE hS hW rfl rfl) rfl rfl hl.1 rfl (lv_room (Nat.le_of_ble_eq_true rfl)) dX11_house_103 ⟨Nat.le_of_ble_eq_true rfl, Nat.le_of_ble_eq_true rfl⟩) hS (fun _ _ h => h) (fun _ h => h) (fun M103 t H locs ht hvm hw hB hz1 hk1 hS => ?_)
                have eM103 : M103 = q_X11_put M96 p1 0 1 := hw
                clear hw
                have hW : gW E M103 S H := by rw [← ht]; exact hB
                refine lv_aload_n hx hb dX11_house_106 rfl (lv_at hl 2 rfl) ?_
                refine lv_iload_n hx hb dX11_house_107 rfl (lv_at hl 3 rfl) ?_
                refine lv_iconst (v := 1) hx hb dX11_house_108 (by decide) ?_
                refine lv_iload_n hx hb dX11_house_109 rfl (lv_at hl 4 rfl) ?_
                refine va_callv (va_runV (As := [.int (p1), .int (1), .int (p2)]) (rest := []) ⟨hx, hb, hml, hown, hts⟩ (c_X11_put l E M103 S p1 1 p2 (gx (isPm_of er1 c4) (by decide))) (cwV 3 hts gX11_house_X11_put rfl rfl rfl (by decide +kernel) ⟨Nat.le_of_ble_eq_true rfl, Nat.le_of_ble_eq_true rfl⟩) (gP.V (ci := 10) (q := (RX11, TX11, 23)) (q0 := 0) hE hS hW rfl rfl) rfl rfl hl.1 rfl (lv_room (Nat.le_of_ble_eq_true rfl)) dX11_house_110 ⟨Nat.le_of_ble_eq_true rfl, Nat.le_of_ble_eq_true rfl⟩) hS (fun _ _ h => h) (fun _ h => h) (fun M110 t H locs ht hvm hw hB hz1 hk1 hS => ?_)
                have eM110 : M110 = q_X11_put M103 p1 1 p2 := hw
                clear hw
                have hW : gW E M110 S H := by rw [← ht]; exact hB
                refine lv_aload_n hx hb dX11_house_113 rfl (lv_at hl 2 rfl) ?_
                refine lv_iload_n hx hb dX11_house_114 rfl (lv_at hl 3 rfl) ?_
                refine lv_iconst (v := 2) hx hb dX11_house_115 (by decide) ?_
                refine lv_iload_n hx hb dX11_house_116 rfl (lv_at hl 5 rfl) ?_
                refine va_callv (va_runV (As := [.int (p1), .int (2), .int (p3)]) (rest := []) ⟨hx, hb, hml, hown, hts⟩ (c_X11_put l E M110 S p1 2 p3 (gx (isPm_of er1 c4) (by decide))) (cwV 3 hts gX11_house_X11_put rfl rfl rfl (by decide +kernel) ⟨Nat.le_of_ble_eq_true rfl, Nat.le_of_ble_eq_true rfl⟩) (gP.V (ci := 10) (q := (RX11, TX11, 23)) (q0 := 0) hE hS hW rfl rfl) rfl rfl hl.1 rfl (lv_room (Nat.le_of_ble_eq_true rfl)) dX11_house_117 ⟨Nat.le_of_ble_eq_true rfl, Nat.le_of_ble_eq_true rfl⟩) hS (fun _ _ h => h) (fun _ h => h) (fun M117 t H locs ht hvm hw hB hz1 hk1 hS => ?_)
                have eM117 : M117 = q_X11_put M110 p1 2 p3 := hw
                clear hw
                have hW : gW E M117 S H := by rw [← ht]; exact hB
                refine lv_aload_n hx hb dX11_house_120 rfl (lv_at hl 2 rfl) ?_
                refine lv_iload_n hx hb dX11_house_121 rfl (lv_at hl 3 rfl) ?_
                refine lv_iconst (v := 3) hx hb dX11_house_122 (by decide) ?_
                refine lv_iload hx hb dX11_house_123 (lv_at hl 1 rfl) ?_
                refine va_callv (va_runV (As := [.int (p1), .int (3), .int (x54)]) (rest := []) ⟨hx, hb, hml, hown, hts⟩ (c_X11_put l E M117 S p1 3 x54 (gx (isPm_of er1 c4) (by decide))) (cwV 3 hts gX11_house_X11_put rfl rfl rfl (by decide +kernel) ⟨Nat.le_of_ble_eq_true rfl, Nat.le_of_ble_eq_true rfl⟩) (gP.V (ci := 10) (q := (RX11, TX11, 23)) (q0 := 0) hE hS hW rfl rfl) rfl rfl hl.1 rfl (lv_room (Nat.le_of_ble_eq_true rfl)) dX11_house_125 ⟨Nat.le_of_ble_eq_true rfl, Nat.le_of_ble_eq_true rfl⟩) hS (fun _ _ h => h) (fun _ h => h) (fun M125 t H locs ht hvm hw hB hz1 hk1 hS => ?_)
                have eM125 : M125 = q_X11_put M117 p1 3 x54 := hw
                clear hw
                have hW : gW E M125 S H := by rw [← ht]; exact hB
                refine lv_aload_n hx hb dX11_house_128 rfl (lv_at hl 2 rfl) ?_
                refine lv_iload_n hx hb dX11_house_129 rfl (lv_at hl 3 rfl) ?_
                refine lv_iconst (v := 4) hx hb dX11_house_130 (by decide) ?_
                refine lv_iload hx hb dX11_house_131 (lv_at hl 0 rfl) ?_
                refine va_callv (va_runV (As := [.int (p1), .int (4), .int (x67)]) (rest := []) ⟨hx, hb, hml, hown, hts⟩ (c_X11_put l E M125 S p1 4 x67 (gx (isPm_of er1 c4) (by decide))) (cwV 3 hts gX11_house_X11_put rfl rfl rfl (by decide +kernel) ⟨Nat.le_of_ble_eq_true rfl, Nat.le_of_ble_eq_true rfl⟩) (gP.V (ci := 10) (q := (RX11, TX11, 23)) (q0 := 0) hE hS hW rfl rfl) rfl rfl hl.1 rfl (lv_room (Nat.le_of_ble_eq_true rfl)) dX11_house_133 ⟨Nat.le_of_ble_eq_true rfl, Nat.le_of_ble_eq_true rfl⟩) hS (fun _ _ h => h) (fun _ h => h) (fun M133 t H locs ht hvm hw hB hz1 hk1 hS => ?_)
                have eM133 : M133 = q_X11_put M125 p1 4 x67 := hw
                clear hw
                have hW : gW E M133 S H := by rw [← ht]; exact hB
                refine lv_aload_n hx hb dX11_house_136 rfl (lv_at hl 2 rfl) ?_
                refine lv_iload_n hx hb dX11_house_137 rfl (lv_at hl 3 rfl) ?_
                refine lv_iconst (v := 5) hx hb dX11_house_138 (by decide) ?_
                refine lv_iload hx hb dX11_house_139 (lv_at hl 7 rfl) ?_
                refine va_callv (va_runV (As := [.int (p1), .int (5), .int (p5)]) (rest := []) ⟨hx, hb, hml, hown, hts⟩ (c_X11_put l E M133 S p1 5 p5 (gx (isPm_of er1 c4) (by decide))) (cwV 3 hts gX11_house_X11_put rfl rfl rfl (by decide +kernel) ⟨Nat.le_of_ble_eq_true rfl, Nat.le_of_ble_eq_true rfl⟩) (gP.V (ci := 10) (q := (RX11, TX11, 23)) (q0 := 0) hE hS hW rfl rfl) rfl rfl hl.1 rfl (lv_room (Nat.le_of_ble_eq_true rfl)) dX11_house_141 ⟨Nat.le_of_ble_eq_true rfl, Nat.le_of_ble_eq_true rfl⟩) hS (fun _ _ h => h) (fun _ h => h) (fun M141 t H locs ht hvm hw hB hz1 hk1 hS => ?_)
                have eM141 : M141 = q_X11_put M133 p1 5 p5 := hw
                clear hw
                have hW : gW E M141 S H := by rw [← ht]; exact hB
                refine lv_iconst (v := 0) hx hb dX11_house_144 (by decide) ?_
                exact W.iret (v := 0) hx hb hr (fun t ht _ => ⟨⟨0, M141, rfl, by subst eM141; subst eM133; subst eM125; subst eM117; subst eM110; subst eM103; subst eM96; subst er73; subst ex67; subst ex54; subst er34; subst er21; subst er9; subst er1; first | (simp only [q_X11_house, if_neg c4, if_neg c12, if_neg c24, if_neg c37, if_neg c76, if_pos c82, if_neg c88]; done) | contradiction, by dsimp only; rw [ht]; exact hW⟩, hS.F ht⟩) hS.2.2 dX11_house_145
              · refine lv_ldc hx hb (v := (-2000000001)) hown (hts (.constant RX11 73 (-2000000001)) (by decide +kernel)) dX11_house_91 ?_
                exact W.iret (v := (-2000000001)) hx hb hr (fun t ht _ => ⟨⟨(-2000000001), M, rfl, by subst er73; subst ex67; subst ex54; subst er34; subst er21; subst er9; subst er1; first | (simp only [q_X11_house, if_neg c4, if_neg c12, if_neg c24, if_neg c37, if_neg c76, if_pos c82, if_pos c88]; done) | contradiction, by dsimp only; rw [ht]; exact hW⟩, hS.F ht⟩) hS.2.2 dX11_house_93
        · refine lv_ldc hx hb (v := (-2000000001)) hown (hts (.constant RX11 73 (-2000000001)) (by decide +kernel)) dX11_house_40 ?_
          exact W.iret (v := (-2000000001)) hx hb hr (fun t ht _ => ⟨⟨(-2000000001), M, rfl, by subst er34; subst er21; subst er9; subst er1; first | (simp only [q_X11_house, if_neg c4, if_neg c12, if_neg c24, if_pos c37]; done) | contradiction, by dsimp only; rw [ht]; exact hW⟩, hS.F ht⟩) hS.2.2 dX11_house_42

def q_X11_drop (M : gSm) (p1 : Int32) : Int32 × gSm := (let r1 := q_X11_isPlace p1; (if r1 = 0 then ((-2000000001), M) else (let r13 := q_X11_get M p1 0; (if r13 = 0 then ((-2000000002), M) else (let M24 := q_X11_keep M p1; (let M31 := q_X11_put M24 p1 0 0; (0, M31)))))))
set_option maxHeartbeats 4000000 in
set_option maxRecDepth 100000 in
theorem c_X11_drop (l : Launch) (E : gEE) (M : gSm) (S : gSc) (p1 : Int32) (hk0 : 0 ≤ (M.1 0 3).toInt) (hk : (M.1 0 3).toInt ≤ 16) : Met l yX11_drop wsX11_drop ({ frames := 2, cells := 0, slots := 0, locals := 45 }) (va_Pc [.ref (eM E 0), .int (p1)] (gP E M S)) (va_Qi (fun r (u : gSm) => (r, u) = q_X11_drop M p1) (fun u t => gW E u S t.heap) (eA E)) 0 0 (eA E) := by
  refine Met.ofW (cc := cX11_drop) (maxL := 2) (ret := (some .int)) (by decide) rfl ?_
  intro p e s m args below meth c s₁ B hml hv
  obtain ⟨rfl, hE, hW⟩ := hv
  have hx := B.exec
  have hb := B.bytes
  have hr := B.returns
  have hts := atoms_spec (ws := wsX11_drop) B.pre
  have hown : s.vm.findClass RX11 = some m.cls := findClass_of_methodNamed B.named
  have hlocks := B.notSynchronized
  have hS : va_S (eA E) s.heap s.heap [] := va_S.rf
  have hl := lv_entry ([.ref (eM E 0), .int (p1)]) (n := 2) (Nat.le_of_ble_eq_true rfl)
  rw [lg_entry_eq]
  generalize (lg_sl ([.ref (eM E 0), .int (p1)]) ++ List.replicate (2 - (lg_sl ([.ref (eM E 0), .int (p1)])).length) Slot.unset).toArray = ls at hl ⊢
  have hl : lv_has ls 2 [(0, .ref (eM E 0)), (1, .int (p1))] := hl
  have hS : ∃ (H : Heap) (locs : List Loc), H = s.heap ∧ locs = [] ∧ gW E M S H ∧ va_S (eA E) s.heap H locs := ⟨_, _, rfl, rfl, hW, hS⟩
  clear hW
  obtain ⟨H, locs, eH, el, hW, hS⟩ := hS
  rw [← eH, ← el]
  clear eH el
  refine lv_iload_n hx hb dX11_drop_0 rfl (lv_at hl 1 rfl) ?_
  refine k_Si (va_runS (As := [.int (p1)]) (rest := []) ⟨hx, hb, hml, hown, hts⟩ (c_X11_isPlace l p1) (va_cwS 1 hts gX11_drop_X11_isPlace rfl rfl rfl (by decide +kernel) ⟨Nat.le_of_ble_eq_true rfl, Nat.le_of_ble_eq_true rfl⟩) gP0 rfl rfl hl.1 rfl (lv_room (Nat.le_of_ble_eq_true rfl)) dX11_drop_1 ⟨Nat.le_of_ble_eq_true rfl, Nat.le_of_ble_eq_true rfl⟩) (fun r1 er1 => ?_)
  refine lv_if_ne (tgt := 10) hx hb dX11_drop_4 (by decide) (fun c4 => ?_) (fun c4 => ?_)
  · refine lv_aload_n hx hb dX11_drop_10 rfl (lv_at hl 0 rfl) ?_
    refine lv_iload_n hx hb dX11_drop_11 rfl (lv_at hl 1 rfl) ?_
    refine lv_iconst (v := 0) hx hb dX11_drop_12 (by decide) ?_
    refine k_Si (va_runV (As := [.int (p1), .int (0)]) (rest := []) ⟨hx, hb, hml, hown, hts⟩ (c_X11_get l E M S p1 0 (gx (isPm_of er1 c4) (by decide))) (cwV 2 hts gX11_drop_X11_get rfl rfl rfl (by decide +kernel) ⟨Nat.le_of_ble_eq_true rfl, Nat.le_of_ble_eq_true rfl⟩) (gP.V (ci := 10) (q := (RX11, TX11, 23)) (q0 := 0) hE hS hW rfl rfl) rfl rfl hl.1 rfl (lv_room (Nat.le_of_ble_eq_true rfl)) dX11_drop_13 ⟨Nat.le_of_ble_eq_true rfl, Nat.le_of_ble_eq_true rfl⟩) (fun r13 er13 => ?_)
    refine lv_if_ne (tgt := 22) hx hb dX11_drop_16 (by decide) (fun c16 => ?_) (fun c16 => ?_)
    · refine lv_aload_n hx hb dX11_drop_22 rfl (lv_at hl 0 rfl) ?_
      refine lv_iload_n hx hb dX11_drop_23 rfl (lv_at hl 1 rfl) ?_
      refine va_callv (va_runV (As := [.int (p1)]) (rest := []) ⟨hx, hb, hml, hown, hts⟩ (c_X11_keep l E M S p1 (isPm_of er1 c4) hk0 hk) (cwV 1 hts gX11_drop_X11_keep rfl rfl rfl (by decide +kernel) ⟨Nat.le_of_ble_eq_true rfl, Nat.le_of_ble_eq_true rfl⟩) (gP.V (ci := 10) (q := (RX11, TX11, 23)) (q0 := 0) hE hS hW rfl rfl) rfl rfl hl.1 rfl (lv_room (Nat.le_of_ble_eq_true rfl)) dX11_drop_24 ⟨Nat.le_of_ble_eq_true rfl, Nat.le_of_ble_eq_true rfl⟩) hS (fun _ _ h => h) (fun _ h => h) (fun M24 t H locs ht hvm hw hB hz1 hk1 hS => ?_)
      have eM24 : M24 = q_X11_keep M p1 := hw
      clear hw
      have hW : gW E M24 S H := by rw [← ht]; exact hB
      refine lv_aload_n hx hb dX11_drop_27 rfl (lv_at hl 0 rfl) ?_
      refine lv_iload_n hx hb dX11_drop_28 rfl (lv_at hl 1 rfl) ?_
      refine lv_iconst (v := 0) hx hb dX11_drop_29 (by decide) ?_
      refine lv_iconst (v := 0) hx hb dX11_drop_30 (by decide) ?_
      refine va_callv (va_runV (As := [.int (p1), .int (0), .int (0)]) (rest := []) ⟨hx, hb, hml, hown, hts⟩ (c_X11_put l E M24 S p1 0 0 (gx (isPm_of er1 c4) (by decide))) (cwV 3 hts gX11_drop_X11_put rfl rfl rfl (by decide +kernel) ⟨Nat.le_of_ble_eq_true rfl, Nat.le_of_ble_eq_true rfl⟩) (gP.V (ci := 10) (q := (RX11, TX11, 23)) (q0 := 0) hE hS hW rfl rfl) rfl rfl hl.1 rfl (lv_room (Nat.le_of_ble_eq_true rfl)) dX11_drop_31 ⟨Nat.le_of_ble_eq_true rfl, Nat.le_of_ble_eq_true rfl⟩) hS (fun _ _ h => h) (fun _ h => h) (fun M31 t H locs ht hvm hw hB hz1 hk1 hS => ?_)
      have eM31 : M31 = q_X11_put M24 p1 0 0 := hw
      clear hw
      have hW : gW E M31 S H := by rw [← ht]; exact hB
      refine lv_iconst (v := 0) hx hb dX11_drop_34 (by decide) ?_
      exact W.iret (v := 0) hx hb hr (fun t ht _ => ⟨⟨0, M31, rfl, by subst eM31; subst eM24; subst er13; subst er1; first | (simp only [q_X11_drop, if_neg c4, if_neg c16]; done) | contradiction, by dsimp only; rw [ht]; exact hW⟩, hS.F ht⟩) hS.2.2 dX11_drop_35
    · refine lv_ldc hx hb (v := (-2000000002)) hown (hts (.constant RX11 141 (-2000000002)) (by decide +kernel)) dX11_drop_19 ?_
      exact W.iret (v := (-2000000002)) hx hb hr (fun t ht _ => ⟨⟨(-2000000002), M, rfl, by subst er13; subst er1; first | (simp only [q_X11_drop, if_neg c4, if_pos c16]; done) | contradiction, by dsimp only; rw [ht]; exact hW⟩, hS.F ht⟩) hS.2.2 dX11_drop_21
  · refine lv_ldc hx hb (v := (-2000000001)) hown (hts (.constant RX11 73 (-2000000001)) (by decide +kernel)) dX11_drop_7 ?_
    exact W.iret (v := (-2000000001)) hx hb hr (fun t ht _ => ⟨⟨(-2000000001), M, rfl, by subst er1; first | (simp only [q_X11_drop, if_pos c4]; done) | contradiction, by dsimp only; rw [ht]; exact hW⟩, hS.F ht⟩) hS.2.2 dX11_drop_9

def q_X11_move (M : gSm) (p1 : Int32) (p2 : Int32) (p3 : Int32) : Int32 × gSm := (let r1 := q_X11_isPlace p1; (if r1 = 0 then ((-2000000001), M) else (let r9 := q_X11_isSpot p2 p3; (if r9 = 0 then ((-2000000001), M) else (let r20 := q_X11_isDial M p1; (if r20 = 0 then ((-2000000002), M) else (let M31 := q_X11_keep M p1; (let M38 := q_X11_put M31 p1 1 p2; (let M45 := q_X11_put M38 p1 2 p3; (0, M45))))))))))
set_option maxHeartbeats 4000000 in
set_option maxRecDepth 100000 in
theorem c_X11_move (l : Launch) (E : gEE) (M : gSm) (S : gSc) (p1 : Int32) (p2 : Int32) (p3 : Int32) (hk0 : 0 ≤ (M.1 0 3).toInt) (hk : (M.1 0 3).toInt ≤ 16) : Met l yX11_move wsX11_move ({ frames := 2, cells := 0, slots := 0, locals := 46 }) (va_Pc [.ref (eM E 0), .int (p1), .int (p2), .int (p3)] (gP E M S)) (va_Qi (fun r (u : gSm) => (r, u) = q_X11_move M p1 p2 p3) (fun u t => gW E u S t.heap) (eA E)) 0 0 (eA E) := by
  refine Met.ofW (cc := cX11_move) (maxL := 4) (ret := (some .int)) (by decide) rfl ?_
  intro p e s m args below meth c s₁ B hml hv
  obtain ⟨rfl, hE, hW⟩ := hv
  have hx := B.exec
  have hb := B.bytes
  have hr := B.returns
  have hts := atoms_spec (ws := wsX11_move) B.pre
  have hown : s.vm.findClass RX11 = some m.cls := findClass_of_methodNamed B.named
  have hlocks := B.notSynchronized
  have hS : va_S (eA E) s.heap s.heap [] := va_S.rf
  have hl := lv_entry ([.ref (eM E 0), .int (p1), .int (p2), .int (p3)]) (n := 4) (Nat.le_of_ble_eq_true rfl)
  rw [lg_entry_eq]
  generalize (lg_sl ([.ref (eM E 0), .int (p1), .int (p2), .int (p3)]) ++ List.replicate (4 - (lg_sl ([.ref (eM E 0), .int (p1), .int (p2), .int (p3)])).length) Slot.unset).toArray = ls at hl ⊢
  have hl : lv_has ls 4 [(0, .ref (eM E 0)), (1, .int (p1)), (2, .int (p2)), (3, .int (p3))] := hl
  have hS : ∃ (H : Heap) (locs : List Loc), H = s.heap ∧ locs = [] ∧ gW E M S H ∧ va_S (eA E) s.heap H locs := ⟨_, _, rfl, rfl, hW, hS⟩
  clear hW
  obtain ⟨H, locs, eH, el, hW, hS⟩ := hS
  rw [← eH, ← el]
  clear eH el
  refine lv_iload_n hx hb dX11_move_0 rfl (lv_at hl 1 rfl) ?_
  refine k_Si (va_runS (As := [.int (p1)]) (rest := []) ⟨hx, hb, hml, hown, hts⟩ (c_X11_isPlace l p1) (va_cwS 1 hts gX11_move_X11_isPlace rfl rfl rfl (by decide +kernel) ⟨Nat.le_of_ble_eq_true rfl, Nat.le_of_ble_eq_true rfl⟩) gP0 rfl rfl hl.1 rfl (lv_room (Nat.le_of_ble_eq_true rfl)) dX11_move_1 ⟨Nat.le_of_ble_eq_true rfl, Nat.le_of_ble_eq_true rfl⟩) (fun r1 er1 => ?_)
  refine lv_if_eq (tgt := 15) hx hb dX11_move_4 (by decide) (fun c4 => ?_) (fun c4 => ?_)
  · refine lv_ldc hx hb (v := (-2000000001)) hown (hts (.constant RX11 73 (-2000000001)) (by decide +kernel)) dX11_move_15 ?_
    exact W.iret (v := (-2000000001)) hx hb hr (fun t ht _ => ⟨⟨(-2000000001), M, rfl, by subst er1; first | (simp only [q_X11_move, if_pos c4]; done) | contradiction, by dsimp only; rw [ht]; exact hW⟩, hS.F ht⟩) hS.2.2 dX11_move_17
  · refine lv_iload_n hx hb dX11_move_7 rfl (lv_at hl 2 rfl) ?_
    refine lv_iload_n hx hb dX11_move_8 rfl (lv_at hl 3 rfl) ?_
    refine k_Si (va_runS (As := [.int (p2), .int (p3)]) (rest := []) ⟨hx, hb, hml, hown, hts⟩ (c_X11_isSpot l p2 p3) (va_cwS 2 hts gX11_move_X11_isSpot rfl rfl rfl (by decide +kernel) ⟨Nat.le_of_ble_eq_true rfl, Nat.le_of_ble_eq_true rfl⟩) gP0 rfl rfl hl.1 rfl (lv_room (Nat.le_of_ble_eq_true rfl)) dX11_move_9 ⟨Nat.le_of_ble_eq_true rfl, Nat.le_of_ble_eq_true rfl⟩) (fun r9 er9 => ?_)
    refine lv_if_ne (tgt := 18) hx hb dX11_move_12 (by decide) (fun c12 => ?_) (fun c12 => ?_)
    · refine lv_aload_n hx hb dX11_move_18 rfl (lv_at hl 0 rfl) ?_
      refine lv_iload_n hx hb dX11_move_19 rfl (lv_at hl 1 rfl) ?_
      refine k_Si (va_runV (As := [.int (p1)]) (rest := []) ⟨hx, hb, hml, hown, hts⟩ (c_X11_isDial l E M S p1 (isPm_of er1 c4)) (cwV 1 hts gX11_move_X11_isDial rfl rfl rfl (by decide +kernel) ⟨Nat.le_of_ble_eq_true rfl, Nat.le_of_ble_eq_true rfl⟩) (gP.V (ci := 10) (q := (RX11, TX11, 23)) (q0 := 0) hE hS hW rfl rfl) rfl rfl hl.1 rfl (lv_room (Nat.le_of_ble_eq_true rfl)) dX11_move_20 ⟨Nat.le_of_ble_eq_true rfl, Nat.le_of_ble_eq_true rfl⟩) (fun r20 er20 => ?_)
      refine lv_if_ne (tgt := 29) hx hb dX11_move_23 (by decide) (fun c23 => ?_) (fun c23 => ?_)
      · refine lv_aload_n hx hb dX11_move_29 rfl (lv_at hl 0 rfl) ?_
        refine lv_iload_n hx hb dX11_move_30 rfl (lv_at hl 1 rfl) ?_
        refine va_callv (va_runV (As := [.int (p1)]) (rest := []) ⟨hx, hb, hml, hown, hts⟩ (c_X11_keep l E M S p1 (isPm_of er1 c4) hk0 hk) (cwV 1 hts gX11_move_X11_keep rfl rfl rfl (by decide +kernel) ⟨Nat.le_of_ble_eq_true rfl, Nat.le_of_ble_eq_true rfl⟩) (gP.V (ci := 10) (q := (RX11, TX11, 23)) (q0 := 0) hE hS hW rfl rfl) rfl rfl hl.1 rfl (lv_room (Nat.le_of_ble_eq_true rfl)) dX11_move_31 ⟨Nat.le_of_ble_eq_true rfl, Nat.le_of_ble_eq_true rfl⟩) hS (fun _ _ h => h) (fun _ h => h) (fun M31 t H locs ht hvm hw hB hz1 hk1 hS => ?_)
        have eM31 : M31 = q_X11_keep M p1 := hw
        clear hw
        have hW : gW E M31 S H := by rw [← ht]; exact hB
        refine lv_aload_n hx hb dX11_move_34 rfl (lv_at hl 0 rfl) ?_
        refine lv_iload_n hx hb dX11_move_35 rfl (lv_at hl 1 rfl) ?_
        refine lv_iconst (v := 1) hx hb dX11_move_36 (by decide) ?_
        refine lv_iload_n hx hb dX11_move_37 rfl (lv_at hl 2 rfl) ?_
        refine va_callv (va_runV (As := [.int (p1), .int (1), .int (p2)]) (rest := []) ⟨hx, hb, hml, hown, hts⟩ (c_X11_put l E M31 S p1 1 p2 (gx (isPm_of er1 c4) (by decide))) (cwV 3 hts gX11_move_X11_put rfl rfl rfl (by decide +kernel) ⟨Nat.le_of_ble_eq_true rfl, Nat.le_of_ble_eq_true rfl⟩) (gP.V (ci := 10) (q := (RX11, TX11, 23)) (q0 := 0) hE hS hW rfl rfl) rfl rfl hl.1 rfl (lv_room (Nat.le_of_ble_eq_true rfl)) dX11_move_38 ⟨Nat.le_of_ble_eq_true rfl, Nat.le_of_ble_eq_true rfl⟩) hS (fun _ _ h => h) (fun _ h => h) (fun M38 t H locs ht hvm hw hB hz1 hk1 hS => ?_)
        have eM38 : M38 = q_X11_put M31 p1 1 p2 := hw
        clear hw
        have hW : gW E M38 S H := by rw [← ht]; exact hB
        refine lv_aload_n hx hb dX11_move_41 rfl (lv_at hl 0 rfl) ?_
        refine lv_iload_n hx hb dX11_move_42 rfl (lv_at hl 1 rfl) ?_
        refine lv_iconst (v := 2) hx hb dX11_move_43 (by decide) ?_
        refine lv_iload_n hx hb dX11_move_44 rfl (lv_at hl 3 rfl) ?_
        refine va_callv (va_runV (As := [.int (p1), .int (2), .int (p3)]) (rest := []) ⟨hx, hb, hml, hown, hts⟩ (c_X11_put l E M38 S p1 2 p3 (gx (isPm_of er1 c4) (by decide))) (cwV 3 hts gX11_move_X11_put rfl rfl rfl (by decide +kernel) ⟨Nat.le_of_ble_eq_true rfl, Nat.le_of_ble_eq_true rfl⟩) (gP.V (ci := 10) (q := (RX11, TX11, 23)) (q0 := 0) hE hS hW rfl rfl) rfl rfl hl.1 rfl (lv_room (Nat.le_of_ble_eq_true rfl)) dX11_move_45 ⟨Nat.le_of_ble_eq_true rfl, Nat.le_of_ble_eq_true rfl⟩) hS (fun _ _ h => h) (fun _ h => h) (fun M45 t H locs ht hvm hw hB hz1 hk1 hS => ?_)
        have eM45 : M45 = q_X11_put M38 p1 2 p3 := hw
        clear hw
        have hW : gW E M45 S H := by rw [← ht]; exact hB
        refine lv_iconst (v := 0) hx hb dX11_move_48 (by decide) ?_
        exact W.iret (v := 0) hx hb hr (fun t ht _ => ⟨⟨0, M45, rfl, by subst eM45; subst eM38; subst eM31; subst er20; subst er9; subst er1; first | (simp only [q_X11_move, if_neg c4, if_neg c12, if_neg c23]; done) | contradiction, by dsimp only; rw [ht]; exact hW⟩, hS.F ht⟩) hS.2.2 dX11_move_49
      · refine lv_ldc hx hb (v := (-2000000002)) hown (hts (.constant RX11 141 (-2000000002)) (by decide +kernel)) dX11_move_26 ?_
        exact W.iret (v := (-2000000002)) hx hb hr (fun t ht _ => ⟨⟨(-2000000002), M, rfl, by subst er20; subst er9; subst er1; first | (simp only [q_X11_move, if_neg c4, if_neg c12, if_pos c23]; done) | contradiction, by dsimp only; rw [ht]; exact hW⟩, hS.F ht⟩) hS.2.2 dX11_move_28
    · refine lv_ldc hx hb (v := (-2000000001)) hown (hts (.constant RX11 73 (-2000000001)) (by decide +kernel)) dX11_move_15 ?_
      exact W.iret (v := (-2000000001)) hx hb hr (fun t ht _ => ⟨⟨(-2000000001), M, rfl, by subst er9; subst er1; first | (simp only [q_X11_move, if_neg c4, if_pos c12]; done) | contradiction, by dsimp only; rw [ht]; exact hW⟩, hS.F ht⟩) hS.2.2 dX11_move_17

def q_X11_face (M : gSm) (p1 : Int32) (p2 : Int32) : Int32 × gSm := (let r1 := q_X11_isPlace p1; (if r1 = 0 then ((-2000000001), M) else (let r13 := q_X11_isIn (p2.toInt64) 0 65535; (if r13 = 0 then ((-2000000001), M) else (let r25 := q_X11_isOfKind M p1 1; (if r25 = 0 then ((-2000000002), M) else (let r37 := q_X11_get M p1 4; (let M43 := q_X11_keep M p1; (let M50 := q_X11_put M43 p1 4 p2; (r37, M50))))))))))
set_option maxHeartbeats 4000000 in
set_option maxRecDepth 100000 in
theorem c_X11_face (l : Launch) (E : gEE) (M : gSm) (S : gSc) (p1 : Int32) (p2 : Int32) (hk0 : 0 ≤ (M.1 0 3).toInt) (hk : (M.1 0 3).toInt ≤ 16) : Met l yX11_face wsX11_face ({ frames := 2, cells := 0, slots := 0, locals := 45 }) (va_Pc [.ref (eM E 0), .int (p1), .int (p2)] (gP E M S)) (va_Qi (fun r (u : gSm) => (r, u) = q_X11_face M p1 p2) (fun u t => gW E u S t.heap) (eA E)) 0 0 (eA E) := by
  refine Met.ofW (cc := cX11_face) (maxL := 4) (ret := (some .int)) (by decide) rfl ?_
  intro p e s m args below meth c s₁ B hml hv
  obtain ⟨rfl, hE, hW⟩ := hv
  have hx := B.exec
  have hb := B.bytes
  have hr := B.returns
  have hts := atoms_spec (ws := wsX11_face) B.pre
  have hown : s.vm.findClass RX11 = some m.cls := findClass_of_methodNamed B.named
  have hlocks := B.notSynchronized
  have hS : va_S (eA E) s.heap s.heap [] := va_S.rf
  have hl := lv_entry ([.ref (eM E 0), .int (p1), .int (p2)]) (n := 4) (Nat.le_of_ble_eq_true rfl)
  rw [lg_entry_eq]
  generalize (lg_sl ([.ref (eM E 0), .int (p1), .int (p2)]) ++ List.replicate (4 - (lg_sl ([.ref (eM E 0), .int (p1), .int (p2)])).length) Slot.unset).toArray = ls at hl ⊢
  have hl : lv_has ls 4 [(0, .ref (eM E 0)), (1, .int (p1)), (2, .int (p2))] := hl
  have hS : ∃ (H : Heap) (locs : List Loc), H = s.heap ∧ locs = [] ∧ gW E M S H ∧ va_S (eA E) s.heap H locs := ⟨_, _, rfl, rfl, hW, hS⟩
  clear hW
  obtain ⟨H, locs, eH, el, hW, hS⟩ := hS
  rw [← eH, ← el]
  clear eH el
  refine lv_iload_n hx hb dX11_face_0 rfl (lv_at hl 1 rfl) ?_
  refine k_Si (va_runS (As := [.int (p1)]) (rest := []) ⟨hx, hb, hml, hown, hts⟩ (c_X11_isPlace l p1) (va_cwS 1 hts gX11_face_X11_isPlace rfl rfl rfl (by decide +kernel) ⟨Nat.le_of_ble_eq_true rfl, Nat.le_of_ble_eq_true rfl⟩) gP0 rfl rfl hl.1 rfl (lv_room (Nat.le_of_ble_eq_true rfl)) dX11_face_1 ⟨Nat.le_of_ble_eq_true rfl, Nat.le_of_ble_eq_true rfl⟩) (fun r1 er1 => ?_)
  refine lv_if_eq (tgt := 19) hx hb dX11_face_4 (by decide) (fun c4 => ?_) (fun c4 => ?_)
  · refine lv_ldc hx hb (v := (-2000000001)) hown (hts (.constant RX11 73 (-2000000001)) (by decide +kernel)) dX11_face_19 ?_
    exact W.iret (v := (-2000000001)) hx hb hr (fun t ht _ => ⟨⟨(-2000000001), M, rfl, by subst er1; first | (simp only [q_X11_face, if_pos c4]; done) | contradiction, by dsimp only; rw [ht]; exact hW⟩, hS.F ht⟩) hS.2.2 dX11_face_21
  · refine lv_iload_n hx hb dX11_face_7 rfl (lv_at hl 2 rfl) ?_
    refine lv_i2l (v := p2.toInt64) hx hb dX11_face_8 rfl ?_
    refine lv_lconst (v := 0) hx hb dX11_face_9 (by decide) ?_
    refine lv_ldc2 hx hb (v := 65535) hown (hts (.constantLong RX11 49 (65535)) (by decide +kernel)) dX11_face_10 ?_
    refine k_Si (va_runS (As := [.long (p2.toInt64), .long (0), .long (65535)]) (rest := []) ⟨hx, hb, hml, hown, hts⟩ (c_X11_isIn l (p2.toInt64) 0 65535) (va_cwS 3 hts gX11_face_X11_isIn rfl rfl rfl (by decide +kernel) ⟨Nat.le_of_ble_eq_true rfl, Nat.le_of_ble_eq_true rfl⟩) gP0 rfl rfl hl.1 rfl (lv_room (Nat.le_of_ble_eq_true rfl)) dX11_face_13 ⟨Nat.le_of_ble_eq_true rfl, Nat.le_of_ble_eq_true rfl⟩) (fun r13 er13 => ?_)
    refine lv_if_ne (tgt := 22) hx hb dX11_face_16 (by decide) (fun c16 => ?_) (fun c16 => ?_)
    · refine lv_aload_n hx hb dX11_face_22 rfl (lv_at hl 0 rfl) ?_
      refine lv_iload_n hx hb dX11_face_23 rfl (lv_at hl 1 rfl) ?_
      refine lv_iconst (v := 1) hx hb dX11_face_24 (by decide) ?_
      refine k_Si (va_runV (As := [.int (p1), .int (1)]) (rest := []) ⟨hx, hb, hml, hown, hts⟩ (c_X11_isOfKind l E M S p1 1 (isPm_of er1 c4)) (cwV 2 hts gX11_face_X11_isOfKind rfl rfl rfl (by decide +kernel) ⟨Nat.le_of_ble_eq_true rfl, Nat.le_of_ble_eq_true rfl⟩) (gP.V (ci := 10) (q := (RX11, TX11, 23)) (q0 := 0) hE hS hW rfl rfl) rfl rfl hl.1 rfl (lv_room (Nat.le_of_ble_eq_true rfl)) dX11_face_25 ⟨Nat.le_of_ble_eq_true rfl, Nat.le_of_ble_eq_true rfl⟩) (fun r25 er25 => ?_)
      refine lv_if_ne (tgt := 34) hx hb dX11_face_28 (by decide) (fun c28 => ?_) (fun c28 => ?_)
      · refine lv_aload_n hx hb dX11_face_34 rfl (lv_at hl 0 rfl) ?_
        refine lv_iload_n hx hb dX11_face_35 rfl (lv_at hl 1 rfl) ?_
        refine lv_iconst (v := 4) hx hb dX11_face_36 (by decide) ?_
        refine k_Si (va_runV (As := [.int (p1), .int (4)]) (rest := []) ⟨hx, hb, hml, hown, hts⟩ (c_X11_get l E M S p1 4 (gx (isPm_of er1 c4) (by decide))) (cwV 2 hts gX11_face_X11_get rfl rfl rfl (by decide +kernel) ⟨Nat.le_of_ble_eq_true rfl, Nat.le_of_ble_eq_true rfl⟩) (gP.V (ci := 10) (q := (RX11, TX11, 23)) (q0 := 0) hE hS hW rfl rfl) rfl rfl hl.1 rfl (lv_room (Nat.le_of_ble_eq_true rfl)) dX11_face_37 ⟨Nat.le_of_ble_eq_true rfl, Nat.le_of_ble_eq_true rfl⟩) (fun r37 er37 => ?_)
        refine lv_istore_n (lv' := [(3, .int (r37)), (0, .ref (eM E 0)), (1, .int (p1)), (2, .int (p2))]) hx hb dX11_face_40 rfl hl (by decide) rfl (fun ls hl => ?_)
        refine lv_aload_n hx hb dX11_face_41 rfl (lv_at hl 1 rfl) ?_
        refine lv_iload_n hx hb dX11_face_42 rfl (lv_at hl 2 rfl) ?_
        refine va_callv (va_runV (As := [.int (p1)]) (rest := []) ⟨hx, hb, hml, hown, hts⟩ (c_X11_keep l E M S p1 (isPm_of er1 c4) hk0 hk) (cwV 1 hts gX11_face_X11_keep rfl rfl rfl (by decide +kernel) ⟨Nat.le_of_ble_eq_true rfl, Nat.le_of_ble_eq_true rfl⟩) (gP.V (ci := 10) (q := (RX11, TX11, 23)) (q0 := 0) hE hS hW rfl rfl) rfl rfl hl.1 rfl (lv_room (Nat.le_of_ble_eq_true rfl)) dX11_face_43 ⟨Nat.le_of_ble_eq_true rfl, Nat.le_of_ble_eq_true rfl⟩) hS (fun _ _ h => h) (fun _ h => h) (fun M43 t H locs ht hvm hw hB hz1 hk1 hS => ?_)
        have eM43 : M43 = q_X11_keep M p1 := hw
        clear hw
        have hW : gW E M43 S H := by rw [← ht]; exact hB
        refine lv_aload_n hx hb dX11_face_46 rfl (lv_at hl 1 rfl) ?_
        refine lv_iload_n hx hb dX11_face_47 rfl (lv_at hl 2 rfl) ?_
        refine lv_iconst (v := 4) hx hb dX11_face_48 (by decide) ?_
        refine lv_iload_n hx hb dX11_face_49 rfl (lv_at hl 3 rfl) ?_
        refine va_callv (va_runV (As := [.int (p1), .int (4), .int (p2)]) (rest := []) ⟨hx, hb, hml, hown, hts⟩ (c_X11_put l E M43 S p1 4 p2 (gx (isPm_of er1 c4) (by decide))) (cwV 3 hts gX11_face_X11_put rfl rfl rfl (by decide +kernel) ⟨Nat.le_of_ble_eq_true rfl, Nat.le_of_ble_eq_true rfl⟩) (gP.V (ci := 10) (q := (RX11, TX11, 23)) (q0 := 0) hE hS hW rfl rfl) rfl rfl hl.1 rfl (lv_room (Nat.le_of_ble_eq_true rfl)) dX11_face_50 ⟨Nat.le_of_ble_eq_true rfl, Nat.le_of_ble_eq_true rfl⟩) hS (fun _ _ h => h) (fun _ h => h) (fun M50 t H locs ht hvm hw hB hz1 hk1 hS => ?_)
        have eM50 : M50 = q_X11_put M43 p1 4 p2 := hw
        clear hw
        have hW : gW E M50 S H := by rw [← ht]; exact hB
        refine lv_iload_n hx hb dX11_face_53 rfl (lv_at hl 0 rfl) ?_
        exact W.iret (v := r37) hx hb hr (fun t ht _ => ⟨⟨r37, M50, rfl, by subst eM50; subst eM43; subst er37; subst er25; subst er13; subst er1; first | (simp only [q_X11_face, if_neg c4, if_neg c16, if_neg c28]; done) | contradiction, by dsimp only; rw [ht]; exact hW⟩, hS.F ht⟩) hS.2.2 dX11_face_54
      · refine lv_ldc hx hb (v := (-2000000002)) hown (hts (.constant RX11 141 (-2000000002)) (by decide +kernel)) dX11_face_31 ?_
        exact W.iret (v := (-2000000002)) hx hb hr (fun t ht _ => ⟨⟨(-2000000002), M, rfl, by subst er25; subst er13; subst er1; first | (simp only [q_X11_face, if_neg c4, if_neg c16, if_pos c28]; done) | contradiction, by dsimp only; rw [ht]; exact hW⟩, hS.F ht⟩) hS.2.2 dX11_face_33
    · refine lv_ldc hx hb (v := (-2000000001)) hown (hts (.constant RX11 73 (-2000000001)) (by decide +kernel)) dX11_face_19 ?_
      exact W.iret (v := (-2000000001)) hx hb hr (fun t ht _ => ⟨⟨(-2000000001), M, rfl, by subst er13; subst er1; first | (simp only [q_X11_face, if_neg c4, if_pos c16]; done) | contradiction, by dsimp only; rw [ht]; exact hW⟩, hS.F ht⟩) hS.2.2 dX11_face_21

def q_X11_tilt (M : gSm) (p1 : Int32) (p2 : Int32) : Int32 × gSm := (let r1 := q_X11_isPlace p1; (if r1 = 0 then ((-2000000001), M) else (let r13 := q_X11_isIn (p2.toInt64) 0 16384; (if r13 = 0 then ((-2000000001), M) else (let r25 := q_X11_isOfKind M p1 2; (if r25 = 0 then ((-2000000002), M) else (let r37 := q_X11_get M p1 5; (let M43 := q_X11_keep M p1; (let M50 := q_X11_put M43 p1 5 p2; (r37, M50))))))))))
set_option maxHeartbeats 4000000 in
set_option maxRecDepth 100000 in
theorem c_X11_tilt (l : Launch) (E : gEE) (M : gSm) (S : gSc) (p1 : Int32) (p2 : Int32) (hk0 : 0 ≤ (M.1 0 3).toInt) (hk : (M.1 0 3).toInt ≤ 16) : Met l yX11_tilt wsX11_tilt ({ frames := 2, cells := 0, slots := 0, locals := 45 }) (va_Pc [.ref (eM E 0), .int (p1), .int (p2)] (gP E M S)) (va_Qi (fun r (u : gSm) => (r, u) = q_X11_tilt M p1 p2) (fun u t => gW E u S t.heap) (eA E)) 0 0 (eA E) := by
  refine Met.ofW (cc := cX11_tilt) (maxL := 4) (ret := (some .int)) (by decide) rfl ?_
  intro p e s m args below meth c s₁ B hml hv
  obtain ⟨rfl, hE, hW⟩ := hv
  have hx := B.exec
  have hb := B.bytes
  have hr := B.returns
  have hts := atoms_spec (ws := wsX11_tilt) B.pre
  have hown : s.vm.findClass RX11 = some m.cls := findClass_of_methodNamed B.named
  have hlocks := B.notSynchronized
  have hS : va_S (eA E) s.heap s.heap [] := va_S.rf
  have hl := lv_entry ([.ref (eM E 0), .int (p1), .int (p2)]) (n := 4) (Nat.le_of_ble_eq_true rfl)
  rw [lg_entry_eq]
  generalize (lg_sl ([.ref (eM E 0), .int (p1), .int (p2)]) ++ List.replicate (4 - (lg_sl ([.ref (eM E 0), .int (p1), .int (p2)])).length) Slot.unset).toArray = ls at hl ⊢
  have hl : lv_has ls 4 [(0, .ref (eM E 0)), (1, .int (p1)), (2, .int (p2))] := hl
  have hS : ∃ (H : Heap) (locs : List Loc), H = s.heap ∧ locs = [] ∧ gW E M S H ∧ va_S (eA E) s.heap H locs := ⟨_, _, rfl, rfl, hW, hS⟩
  clear hW
  obtain ⟨H, locs, eH, el, hW, hS⟩ := hS
  rw [← eH, ← el]
  clear eH el
  refine lv_iload_n hx hb dX11_tilt_0 rfl (lv_at hl 1 rfl) ?_
  refine k_Si (va_runS (As := [.int (p1)]) (rest := []) ⟨hx, hb, hml, hown, hts⟩ (c_X11_isPlace l p1) (va_cwS 1 hts gX11_tilt_X11_isPlace rfl rfl rfl (by decide +kernel) ⟨Nat.le_of_ble_eq_true rfl, Nat.le_of_ble_eq_true rfl⟩) gP0 rfl rfl hl.1 rfl (lv_room (Nat.le_of_ble_eq_true rfl)) dX11_tilt_1 ⟨Nat.le_of_ble_eq_true rfl, Nat.le_of_ble_eq_true rfl⟩) (fun r1 er1 => ?_)
  refine lv_if_eq (tgt := 19) hx hb dX11_tilt_4 (by decide) (fun c4 => ?_) (fun c4 => ?_)
  · refine lv_ldc hx hb (v := (-2000000001)) hown (hts (.constant RX11 73 (-2000000001)) (by decide +kernel)) dX11_tilt_19 ?_
    exact W.iret (v := (-2000000001)) hx hb hr (fun t ht _ => ⟨⟨(-2000000001), M, rfl, by subst er1; first | (simp only [q_X11_tilt, if_pos c4]; done) | contradiction, by dsimp only; rw [ht]; exact hW⟩, hS.F ht⟩) hS.2.2 dX11_tilt_21
  · refine lv_iload_n hx hb dX11_tilt_7 rfl (lv_at hl 2 rfl) ?_
    refine lv_i2l (v := p2.toInt64) hx hb dX11_tilt_8 rfl ?_
    refine lv_lconst (v := 0) hx hb dX11_tilt_9 (by decide) ?_
    refine lv_ldc2 hx hb (v := 16384) hown (hts (.constantLong RX11 57 (16384)) (by decide +kernel)) dX11_tilt_10 ?_
    refine k_Si (va_runS (As := [.long (p2.toInt64), .long (0), .long (16384)]) (rest := []) ⟨hx, hb, hml, hown, hts⟩ (c_X11_isIn l (p2.toInt64) 0 16384) (va_cwS 3 hts gX11_tilt_X11_isIn rfl rfl rfl (by decide +kernel) ⟨Nat.le_of_ble_eq_true rfl, Nat.le_of_ble_eq_true rfl⟩) gP0 rfl rfl hl.1 rfl (lv_room (Nat.le_of_ble_eq_true rfl)) dX11_tilt_13 ⟨Nat.le_of_ble_eq_true rfl, Nat.le_of_ble_eq_true rfl⟩) (fun r13 er13 => ?_)
    refine lv_if_ne (tgt := 22) hx hb dX11_tilt_16 (by decide) (fun c16 => ?_) (fun c16 => ?_)
    · refine lv_aload_n hx hb dX11_tilt_22 rfl (lv_at hl 0 rfl) ?_
      refine lv_iload_n hx hb dX11_tilt_23 rfl (lv_at hl 1 rfl) ?_
      refine lv_iconst (v := 2) hx hb dX11_tilt_24 (by decide) ?_
      refine k_Si (va_runV (As := [.int (p1), .int (2)]) (rest := []) ⟨hx, hb, hml, hown, hts⟩ (c_X11_isOfKind l E M S p1 2 (isPm_of er1 c4)) (cwV 2 hts gX11_tilt_X11_isOfKind rfl rfl rfl (by decide +kernel) ⟨Nat.le_of_ble_eq_true rfl, Nat.le_of_ble_eq_true rfl⟩) (gP.V (ci := 10) (q := (RX11, TX11, 23)) (q0 := 0) hE hS hW rfl rfl) rfl rfl hl.1 rfl (lv_room (Nat.le_of_ble_eq_true rfl)) dX11_tilt_25 ⟨Nat.le_of_ble_eq_true rfl, Nat.le_of_ble_eq_true rfl⟩) (fun r25 er25 => ?_)
      refine lv_if_ne (tgt := 34) hx hb dX11_tilt_28 (by decide) (fun c28 => ?_) (fun c28 => ?_)
      · refine lv_aload_n hx hb dX11_tilt_34 rfl (lv_at hl 0 rfl) ?_
        refine lv_iload_n hx hb dX11_tilt_35 rfl (lv_at hl 1 rfl) ?_
        refine lv_iconst (v := 5) hx hb dX11_tilt_36 (by decide) ?_
        refine k_Si (va_runV (As := [.int (p1), .int (5)]) (rest := []) ⟨hx, hb, hml, hown, hts⟩ (c_X11_get l E M S p1 5 (gx (isPm_of er1 c4) (by decide))) (cwV 2 hts gX11_tilt_X11_get rfl rfl rfl (by decide +kernel) ⟨Nat.le_of_ble_eq_true rfl, Nat.le_of_ble_eq_true rfl⟩) (gP.V (ci := 10) (q := (RX11, TX11, 23)) (q0 := 0) hE hS hW rfl rfl) rfl rfl hl.1 rfl (lv_room (Nat.le_of_ble_eq_true rfl)) dX11_tilt_37 ⟨Nat.le_of_ble_eq_true rfl, Nat.le_of_ble_eq_true rfl⟩) (fun r37 er37 => ?_)
        refine lv_istore_n (lv' := [(3, .int (r37)), (0, .ref (eM E 0)), (1, .int (p1)), (2, .int (p2))]) hx hb dX11_tilt_40 rfl hl (by decide) rfl (fun ls hl => ?_)
        refine lv_aload_n hx hb dX11_tilt_41 rfl (lv_at hl 1 rfl) ?_
        refine lv_iload_n hx hb dX11_tilt_42 rfl (lv_at hl 2 rfl) ?_
        refine va_callv (va_runV (As := [.int (p1)]) (rest := []) ⟨hx, hb, hml, hown, hts⟩ (c_X11_keep l E M S p1 (isPm_of er1 c4) hk0 hk) (cwV 1 hts gX11_tilt_X11_keep rfl rfl rfl (by decide +kernel) ⟨Nat.le_of_ble_eq_true rfl, Nat.le_of_ble_eq_true rfl⟩) (gP.V (ci := 10) (q := (RX11, TX11, 23)) (q0 := 0) hE hS hW rfl rfl) rfl rfl hl.1 rfl (lv_room (Nat.le_of_ble_eq_true rfl)) dX11_tilt_43 ⟨Nat.le_of_ble_eq_true rfl, Nat.le_of_ble_eq_true rfl⟩) hS (fun _ _ h => h) (fun _ h => h) (fun M43 t H locs ht hvm hw hB hz1 hk1 hS => ?_)
        have eM43 : M43 = q_X11_keep M p1 := hw
        clear hw
        have hW : gW E M43 S H := by rw [← ht]; exact hB
        refine lv_aload_n hx hb dX11_tilt_46 rfl (lv_at hl 1 rfl) ?_
        refine lv_iload_n hx hb dX11_tilt_47 rfl (lv_at hl 2 rfl) ?_
        refine lv_iconst (v := 5) hx hb dX11_tilt_48 (by decide) ?_
        refine lv_iload_n hx hb dX11_tilt_49 rfl (lv_at hl 3 rfl) ?_
        refine va_callv (va_runV (As := [.int (p1), .int (5), .int (p2)]) (rest := []) ⟨hx, hb, hml, hown, hts⟩ (c_X11_put l E M43 S p1 5 p2 (gx (isPm_of er1 c4) (by decide))) (cwV 3 hts gX11_tilt_X11_put rfl rfl rfl (by decide +kernel) ⟨Nat.le_of_ble_eq_true rfl, Nat.le_of_ble_eq_true rfl⟩) (gP.V (ci := 10) (q := (RX11, TX11, 23)) (q0 := 0) hE hS hW rfl rfl) rfl rfl hl.1 rfl (lv_room (Nat.le_of_ble_eq_true rfl)) dX11_tilt_50 ⟨Nat.le_of_ble_eq_true rfl, Nat.le_of_ble_eq_true rfl⟩) hS (fun _ _ h => h) (fun _ h => h) (fun M50 t H locs ht hvm hw hB hz1 hk1 hS => ?_)
        have eM50 : M50 = q_X11_put M43 p1 5 p2 := hw
        clear hw
        have hW : gW E M50 S H := by rw [← ht]; exact hB
        refine lv_iload_n hx hb dX11_tilt_53 rfl (lv_at hl 0 rfl) ?_
        exact W.iret (v := r37) hx hb hr (fun t ht _ => ⟨⟨r37, M50, rfl, by subst eM50; subst eM43; subst er37; subst er25; subst er13; subst er1; first | (simp only [q_X11_tilt, if_neg c4, if_neg c16, if_neg c28]; done) | contradiction, by dsimp only; rw [ht]; exact hW⟩, hS.F ht⟩) hS.2.2 dX11_tilt_54
      · refine lv_ldc hx hb (v := (-2000000002)) hown (hts (.constant RX11 141 (-2000000002)) (by decide +kernel)) dX11_tilt_31 ?_
        exact W.iret (v := (-2000000002)) hx hb hr (fun t ht _ => ⟨⟨(-2000000002), M, rfl, by subst er25; subst er13; subst er1; first | (simp only [q_X11_tilt, if_neg c4, if_neg c16, if_pos c28]; done) | contradiction, by dsimp only; rw [ht]; exact hW⟩, hS.F ht⟩) hS.2.2 dX11_tilt_33
    · refine lv_ldc hx hb (v := (-2000000001)) hown (hts (.constant RX11 73 (-2000000001)) (by decide +kernel)) dX11_tilt_19 ?_
      exact W.iret (v := (-2000000001)) hx hb hr (fun t ht _ => ⟨⟨(-2000000001), M, rfl, by subst er13; subst er1; first | (simp only [q_X11_tilt, if_neg c4, if_pos c16]; done) | contradiction, by dsimp only; rw [ht]; exact hW⟩, hS.F ht⟩) hS.2.2 dX11_tilt_21

def q_X11_left (M : gSm) (p1 : Int32) (p2 : Int32) (p3 : Int32) : Int32 × gSm := (let r1 := q_X11_isPlace p1; (if r1 = 0 then ((-2000000001), M) else (let r13 := q_X11_isIn (p2.toInt64) 0 23; (if r13 = 0 then ((-2000000001), M) else (let r23 := q_X11_isIn (p3.toInt64) 0 1; (if r23 = 0 then ((-2000000001), M) else (let r35 := q_X11_isOfKind M p1 4; (if r35 = 0 then ((-2000000002), M) else (let r48 := q_X11_get M p1 6; (let x55 := (r48 >>> (p2 &&& 31)) &&& 1; (let M59 := q_X11_keep M p1; (let r70 := q_X11_get M59 p1 6; (let M83 := q_X11_put M59 p1 6 ((r70 &&& ((1 <<< (p2 &&& 31)) ^^^ (-1))) ||| (p3 <<< (p2 &&& 31))); (x55, M83))))))))))))))
set_option maxHeartbeats 4000000 in
set_option maxRecDepth 100000 in
theorem c_X11_left (l : Launch) (E : gEE) (M : gSm) (S : gSc) (p1 : Int32) (p2 : Int32) (p3 : Int32) (hk0 : 0 ≤ (M.1 0 3).toInt) (hk : (M.1 0 3).toInt ≤ 16) : Met l yX11_left wsX11_left ({ frames := 2, cells := 0, slots := 0, locals := 45 }) (va_Pc [.ref (eM E 0), .int (p1), .int (p2), .int (p3)] (gP E M S)) (va_Qi (fun r (u : gSm) => (r, u) = q_X11_left M p1 p2 p3) (fun u t => gW E u S t.heap) (eA E)) 0 0 (eA E) := by
  refine Met.ofW (cc := cX11_left) (maxL := 5) (ret := (some .int)) (by decide) rfl ?_
  intro p e s m args below meth c s₁ B hml hv
  obtain ⟨rfl, hE, hW⟩ := hv
  have hx := B.exec
  have hb := B.bytes
  have hr := B.returns
  have hts := atoms_spec (ws := wsX11_left) B.pre
  have hown : s.vm.findClass RX11 = some m.cls := findClass_of_methodNamed B.named
  have hlocks := B.notSynchronized
  have hS : va_S (eA E) s.heap s.heap [] := va_S.rf
  have hl := lv_entry ([.ref (eM E 0), .int (p1), .int (p2), .int (p3)]) (n := 5) (Nat.le_of_ble_eq_true rfl)
  rw [lg_entry_eq]
  generalize (lg_sl ([.ref (eM E 0), .int (p1), .int (p2), .int (p3)]) ++ List.replicate (5 - (lg_sl ([.ref (eM E 0), .int (p1), .int (p2), .int (p3)])).length) Slot.unset).toArray = ls at hl ⊢
  have hl : lv_has ls 5 [(0, .ref (eM E 0)), (1, .int (p1)), (2, .int (p2)), (3, .int (p3))] := hl
  have hS : ∃ (H : Heap) (locs : List Loc), H = s.heap ∧ locs = [] ∧ gW E M S H ∧ va_S (eA E) s.heap H locs := ⟨_, _, rfl, rfl, hW, hS⟩
  clear hW
  obtain ⟨H, locs, eH, el, hW, hS⟩ := hS
  rw [← eH, ← el]
  clear eH el
  refine lv_iload_n hx hb dX11_left_0 rfl (lv_at hl 1 rfl) ?_
  refine k_Si (va_runS (As := [.int (p1)]) (rest := []) ⟨hx, hb, hml, hown, hts⟩ (c_X11_isPlace l p1) (va_cwS 1 hts gX11_left_X11_isPlace rfl rfl rfl (by decide +kernel) ⟨Nat.le_of_ble_eq_true rfl, Nat.le_of_ble_eq_true rfl⟩) gP0 rfl rfl hl.1 rfl (lv_room (Nat.le_of_ble_eq_true rfl)) dX11_left_1 ⟨Nat.le_of_ble_eq_true rfl, Nat.le_of_ble_eq_true rfl⟩) (fun r1 er1 => ?_)
  refine lv_if_eq (tgt := 29) hx hb dX11_left_4 (by decide) (fun c4 => ?_) (fun c4 => ?_)
  · refine lv_ldc hx hb (v := (-2000000001)) hown (hts (.constant RX11 73 (-2000000001)) (by decide +kernel)) dX11_left_29 ?_
    exact W.iret (v := (-2000000001)) hx hb hr (fun t ht _ => ⟨⟨(-2000000001), M, rfl, by subst er1; first | (simp only [q_X11_left, if_pos c4]; done) | contradiction, by dsimp only; rw [ht]; exact hW⟩, hS.F ht⟩) hS.2.2 dX11_left_31
  · refine lv_iload_n hx hb dX11_left_7 rfl (lv_at hl 2 rfl) ?_
    refine lv_i2l (v := p2.toInt64) hx hb dX11_left_8 rfl ?_
    refine lv_lconst (v := 0) hx hb dX11_left_9 (by decide) ?_
    refine lv_ldc2 hx hb (v := 23) hown (hts (.constantLong RX11 170 (23)) (by decide +kernel)) dX11_left_10 ?_
    refine k_Si (va_runS (As := [.long (p2.toInt64), .long (0), .long (23)]) (rest := []) ⟨hx, hb, hml, hown, hts⟩ (c_X11_isIn l (p2.toInt64) 0 23) (va_cwS 3 hts gX11_left_X11_isIn rfl rfl rfl (by decide +kernel) ⟨Nat.le_of_ble_eq_true rfl, Nat.le_of_ble_eq_true rfl⟩) gP0 rfl rfl hl.1 rfl (lv_room (Nat.le_of_ble_eq_true rfl)) dX11_left_13 ⟨Nat.le_of_ble_eq_true rfl, Nat.le_of_ble_eq_true rfl⟩) (fun r13 er13 => ?_)
    refine lv_if_eq (tgt := 29) hx hb dX11_left_16 (by decide) (fun c16 => ?_) (fun c16 => ?_)
    · refine lv_ldc hx hb (v := (-2000000001)) hown (hts (.constant RX11 73 (-2000000001)) (by decide +kernel)) dX11_left_29 ?_
      exact W.iret (v := (-2000000001)) hx hb hr (fun t ht _ => ⟨⟨(-2000000001), M, rfl, by subst er13; subst er1; first | (simp only [q_X11_left, if_neg c4, if_pos c16]; done) | contradiction, by dsimp only; rw [ht]; exact hW⟩, hS.F ht⟩) hS.2.2 dX11_left_31
    · refine lv_iload_n hx hb dX11_left_19 rfl (lv_at hl 3 rfl) ?_
      refine lv_i2l (v := p3.toInt64) hx hb dX11_left_20 rfl ?_
      refine lv_lconst (v := 0) hx hb dX11_left_21 (by decide) ?_
      refine lv_lconst (v := 1) hx hb dX11_left_22 (by decide) ?_
      refine k_Si (va_runS (As := [.long (p3.toInt64), .long (0), .long (1)]) (rest := []) ⟨hx, hb, hml, hown, hts⟩ (c_X11_isIn l (p3.toInt64) 0 1) (va_cwS 3 hts gX11_left_X11_isIn rfl rfl rfl (by decide +kernel) ⟨Nat.le_of_ble_eq_true rfl, Nat.le_of_ble_eq_true rfl⟩) gP0 rfl rfl hl.1 rfl (lv_room (Nat.le_of_ble_eq_true rfl)) dX11_left_23 ⟨Nat.le_of_ble_eq_true rfl, Nat.le_of_ble_eq_true rfl⟩) (fun r23 er23 => ?_)
      refine lv_if_ne (tgt := 32) hx hb dX11_left_26 (by decide) (fun c26 => ?_) (fun c26 => ?_)
      · refine lv_aload_n hx hb dX11_left_32 rfl (lv_at hl 0 rfl) ?_
        refine lv_iload_n hx hb dX11_left_33 rfl (lv_at hl 1 rfl) ?_
        refine lv_iconst (v := 4) hx hb dX11_left_34 (by decide) ?_
        refine k_Si (va_runV (As := [.int (p1), .int (4)]) (rest := []) ⟨hx, hb, hml, hown, hts⟩ (c_X11_isOfKind l E M S p1 4 (isPm_of er1 c4)) (cwV 2 hts gX11_left_X11_isOfKind rfl rfl rfl (by decide +kernel) ⟨Nat.le_of_ble_eq_true rfl, Nat.le_of_ble_eq_true rfl⟩) (gP.V (ci := 10) (q := (RX11, TX11, 23)) (q0 := 0) hE hS hW rfl rfl) rfl rfl hl.1 rfl (lv_room (Nat.le_of_ble_eq_true rfl)) dX11_left_35 ⟨Nat.le_of_ble_eq_true rfl, Nat.le_of_ble_eq_true rfl⟩) (fun r35 er35 => ?_)
        refine lv_if_ne (tgt := 44) hx hb dX11_left_38 (by decide) (fun c38 => ?_) (fun c38 => ?_)
        · refine lv_aload_n hx hb dX11_left_44 rfl (lv_at hl 0 rfl) ?_
          refine lv_iload_n hx hb dX11_left_45 rfl (lv_at hl 1 rfl) ?_
          refine lv_bipush (v := 6) hx hb dX11_left_46 (by decide) ?_
          refine k_Si (va_runV (As := [.int (p1), .int (6)]) (rest := []) ⟨hx, hb, hml, hown, hts⟩ (c_X11_get l E M S p1 6 (gx (isPm_of er1 c4) (by decide))) (cwV 2 hts gX11_left_X11_get rfl rfl rfl (by decide +kernel) ⟨Nat.le_of_ble_eq_true rfl, Nat.le_of_ble_eq_true rfl⟩) (gP.V (ci := 10) (q := (RX11, TX11, 23)) (q0 := 0) hE hS hW rfl rfl) rfl rfl hl.1 rfl (lv_room (Nat.le_of_ble_eq_true rfl)) dX11_left_48 ⟨Nat.le_of_ble_eq_true rfl, Nat.le_of_ble_eq_true rfl⟩) (fun r48 er48 => ?_)
          refine lv_iload_n hx hb dX11_left_51 rfl (lv_at hl 2 rfl) ?_
          refine lv_ishr hx hb dX11_left_52 ?_
          refine lv_iconst (v := 1) hx hb dX11_left_53 (by decide) ?_
          refine lv_iand hx hb dX11_left_54 ?_
          refine lv_topi (fun x55 ex55 => ?_)
          refine lv_istore (lv' := [(4, .int (x55)), (0, .ref (eM E 0)), (1, .int (p1)), (2, .int (p2)), (3, .int (p3))]) hx hb dX11_left_55 hl (by decide) rfl (fun ls hl => ?_)
          refine lv_aload_n hx hb dX11_left_57 rfl (lv_at hl 1 rfl) ?_
          refine lv_iload_n hx hb dX11_left_58 rfl (lv_at hl 2 rfl) ?_
          refine va_callv (va_runV (As := [.int (p1)]) (rest := []) ⟨hx, hb, hml, hown, hts⟩ (c_X11_keep l E M S p1 (isPm_of er1 c4) hk0 hk) (cwV 1 hts gX11_left_X11_keep rfl rfl rfl (by decide +kernel) ⟨Nat.le_of_ble_eq_true rfl, Nat.le_of_ble_eq_true rfl⟩) (gP.V (ci := 10) (q := (RX11, TX11, 23)) (q0 := 0) hE hS hW rfl rfl) rfl rfl hl.1 rfl (lv_room (Nat.le_of_ble_eq_true rfl)) dX11_left_59 ⟨Nat.le_of_ble_eq_true rfl, Nat.le_of_ble_eq_true rfl⟩) hS (fun _ _ h => h) (fun _ h => h) (fun M59 t H locs ht hvm hw hB hz1 hk1 hS => ?_)
          have eM59 : M59 = q_X11_keep M p1 := hw
          clear hw
          have hW : gW E M59 S H := by rw [← ht]; exact hB
          refine lv_aload_n hx hb dX11_left_62 rfl (lv_at hl 1 rfl) ?_
          refine lv_iload_n hx hb dX11_left_63 rfl (lv_at hl 2 rfl) ?_
          refine lv_bipush (v := 6) hx hb dX11_left_64 (by decide) ?_
          refine lv_aload_n hx hb dX11_left_66 rfl (lv_at hl 1 rfl) ?_
          refine lv_iload_n hx hb dX11_left_67 rfl (lv_at hl 2 rfl) ?_
          refine lv_bipush (v := 6) hx hb dX11_left_68 (by decide) ?_
          refine k_Si (va_runV (As := [.int (p1), .int (6)]) (rest := [.int (6), .int (p1), .ref (eM E 0)]) ⟨hx, hb, hml, hown, hts⟩ (c_X11_get l E M59 S p1 6 (gx (isPm_of er1 c4) (by decide))) (cwV 2 hts gX11_left_X11_get rfl rfl rfl (by decide +kernel) ⟨Nat.le_of_ble_eq_true rfl, Nat.le_of_ble_eq_true rfl⟩) (gP.V (ci := 10) (q := (RX11, TX11, 23)) (q0 := 0) hE hS hW rfl rfl) rfl rfl hl.1 rfl (lv_room (Nat.le_of_ble_eq_true rfl)) dX11_left_70 ⟨Nat.le_of_ble_eq_true rfl, Nat.le_of_ble_eq_true rfl⟩) (fun r70 er70 => ?_)
          refine lv_iconst (v := 1) hx hb dX11_left_73 (by decide) ?_
          refine lv_iload_n hx hb dX11_left_74 rfl (lv_at hl 3 rfl) ?_
          refine lv_ishl hx hb dX11_left_75 ?_
          refine lv_iconst (v := (-1)) hx hb dX11_left_76 (by decide) ?_
          refine lv_ixor hx hb dX11_left_77 ?_
          refine lv_iand hx hb dX11_left_78 ?_
          refine lv_iload_n hx hb dX11_left_79 rfl (lv_at hl 4 rfl) ?_
          refine lv_iload_n hx hb dX11_left_80 rfl (lv_at hl 3 rfl) ?_
          refine lv_ishl hx hb dX11_left_81 ?_
          refine lv_ior hx hb dX11_left_82 ?_
          refine va_callv (va_runV (As := [.int (p1), .int (6), .int ((r70 &&& ((1 <<< (p2 &&& 31)) ^^^ (-1))) ||| (p3 <<< (p2 &&& 31)))]) (rest := []) ⟨hx, hb, hml, hown, hts⟩ (c_X11_put l E M59 S p1 6 ((r70 &&& ((1 <<< (p2 &&& 31)) ^^^ (-1))) ||| (p3 <<< (p2 &&& 31))) (gx (isPm_of er1 c4) (by decide))) (cwV 3 hts gX11_left_X11_put rfl rfl rfl (by decide +kernel) ⟨Nat.le_of_ble_eq_true rfl, Nat.le_of_ble_eq_true rfl⟩) (gP.V (ci := 10) (q := (RX11, TX11, 23)) (q0 := 0) hE hS hW rfl rfl) rfl rfl hl.1 rfl (lv_room (Nat.le_of_ble_eq_true rfl)) dX11_left_83 ⟨Nat.le_of_ble_eq_true rfl, Nat.le_of_ble_eq_true rfl⟩) hS (fun _ _ h => h) (fun _ h => h) (fun M83 t H locs ht hvm hw hB hz1 hk1 hS => ?_)
          have eM83 : M83 = q_X11_put M59 p1 6 ((r70 &&& ((1 <<< (p2 &&& 31)) ^^^ (-1))) ||| (p3 <<< (p2 &&& 31))) := hw
          clear hw
          have hW : gW E M83 S H := by rw [← ht]; exact hB
          refine lv_iload hx hb dX11_left_86 (lv_at hl 0 rfl) ?_
          exact W.iret (v := x55) hx hb hr (fun t ht _ => ⟨⟨x55, M83, rfl, by subst eM83; subst er70; subst eM59; subst ex55; subst er48; subst er35; subst er23; subst er13; subst er1; first | (simp only [q_X11_left, if_neg c4, if_neg c16, if_neg c26, if_neg c38]; done) | contradiction, by dsimp only; rw [ht]; exact hW⟩, hS.F ht⟩) hS.2.2 dX11_left_88
        · refine lv_ldc hx hb (v := (-2000000002)) hown (hts (.constant RX11 141 (-2000000002)) (by decide +kernel)) dX11_left_41 ?_
          exact W.iret (v := (-2000000002)) hx hb hr (fun t ht _ => ⟨⟨(-2000000002), M, rfl, by subst er35; subst er23; subst er13; subst er1; first | (simp only [q_X11_left, if_neg c4, if_neg c16, if_neg c26, if_pos c38]; done) | contradiction, by dsimp only; rw [ht]; exact hW⟩, hS.F ht⟩) hS.2.2 dX11_left_43
      · refine lv_ldc hx hb (v := (-2000000001)) hown (hts (.constant RX11 73 (-2000000001)) (by decide +kernel)) dX11_left_29 ?_
        exact W.iret (v := (-2000000001)) hx hb hr (fun t ht _ => ⟨⟨(-2000000001), M, rfl, by subst er23; subst er13; subst er1; first | (simp only [q_X11_left, if_neg c4, if_neg c16, if_pos c26]; done) | contradiction, by dsimp only; rw [ht]; exact hW⟩, hS.F ht⟩) hS.2.2 dX11_left_31
