theorem st_arr {s : State} {args : Array Value} {ty : FieldType} (h : (Cond.arrayClass ty).before args s = true) : ∃ cA : ClassId, ArrOfT s cA ty ∧ s.vm.findClass ("[" ++ ty.toString) = some cA := by
  obtain ⟨c, k, comp, h1, h2, h3⟩ := Cond.arrayClass_spec h
  exact ⟨c, fun n z => ⟨fun k h => (by cases h), k, h2, comp, h3⟩, h1⟩
theorem st_over {s : State} {args : Array Value} {C : String} (h : (Cond.arrayOver (.object C)).before args s = true) : ∃ cA : ClassId, ArrOfT s cA (.object C) ∧ va_RA s cA (.object C) := by
  obtain ⟨comp, c, k, h1, h2, h3, h4, h5⟩ := Cond.arrayOver_spec h
  exact ⟨c, fun n z => ⟨fun k h => (by cases h), k, h3, comp, h4⟩, k, comp, h3, h4, h1, h5⟩
set_option maxRecDepth 20000 in
theorem xN_in : ∀ w ∈ xN, w ∈ lw_tbl := fun w h => of_decide_eq_true (List.all_eq_true.mp (show xN.all (fun w => decide (w ∈ lw_tbl)) = true from by decide +kernel) w h)
theorem xN_on : ∀ w ∈ xN, w.onTables = true := List.all_eq_true.mp (by decide +kernel)
set_option maxHeartbeats 4000000 in
set_option maxRecDepth 100000 in
theorem st_E {p : Program} {s : State} {m : MethodId} {meth : Method} {c : Code} {b L : Nat} {xs : Nat → Int32} (C0 : lw_At p s m meth c b L xs) : ∃ (dC : Nat → ClassId) (dI : Nat → Nat → Nat) (y : Nat → ClassId) (kK : Nat), ∀ (fM fC : Nat → Nat), gE1 (dC, dI, (fun q : Nat => s.heap.size ≤ q), fM, fC, y, kK) s := by
  obtain ⟨hx, hb, hr, hml, hown, hts, hX, hbl, hlocks, hgv⟩ := C0
  have hg := flat_of_before _ hgv
  have hA : ∀ a : Nat, a < s.heap.size → ¬ (fun q : Nat => s.heap.size ≤ q) a := fun a h q => absurd q (Nat.not_le.mpr h)
  obtain ⟨c0, i0, hK0⟩ := u_known (C := RX0) (T := TX0) (N := 4) (n := 4) hts inX0 (hts (.instantiable RX0 4) (by decide +kernel))
  obtain ⟨c1, i1, hK1⟩ := u_known (C := RX1) (T := TX1) (N := 7) (n := 7) hts inX1 (hts (.instantiable RX1 7) (by decide +kernel))
  obtain ⟨c2, i2, hK2⟩ := u_known (C := RX2) (T := TX2) (N := 5) (n := 5) hts inX2 (hts (.instantiable RX2 5) (by decide +kernel))
  obtain ⟨c3, i3, hK3⟩ := u_known (C := RX3) (T := TX3) (N := 7) (n := 7) hts inX3 (hts (.instantiable RX3 7) (by decide +kernel))
  obtain ⟨c4, i4, hK4⟩ := u_known (C := RX4) (T := TX4) (N := 3) (n := 3) hts inX4 (hts (.instantiable RX4 3) (by decide +kernel))
  obtain ⟨c5, i5, hK5⟩ := u_known (C := RX5) (T := TX5) (N := 3) (n := 3) hts inX5 (hts (.instantiable RX5 3) (by decide +kernel))
  obtain ⟨c6, i6, hK6⟩ := u_known (C := RX6) (T := TX6) (N := 13) (n := 13) hts inX6 (hts (.instantiable RX6 13) (by decide +kernel))
  obtain ⟨c7, i7, hK7⟩ := u_known (C := RX7) (T := TX7) (N := 5) (n := 5) hts inX7 (hts (.instantiable RX7 5) (by decide +kernel))
  obtain ⟨c8, i8, hK8⟩ := u_known (C := RX8) (T := TX8) (N := 16) (n := 16) hts inX8 (hts (.instantiable RX8 16) (by decide +kernel))
  obtain ⟨c9, i9, hK9⟩ := u_known (C := RX10) (T := TX10) (N := 12) (n := 12) hts inX10 (hts (.instantiable RX10 12) (by decide +kernel))
  obtain ⟨c10, i10, hK10⟩ := u_known (C := RX11) (T := TX11) (N := 23) (n := 23) hts inX11 (hts (.instantiable RX11 23) (by decide +kernel))
  obtain ⟨y0, a0, f0⟩ := st_arr (hts (.arrayClass .int) (by decide +kernel))
  obtain ⟨y1, a1, f1⟩ := st_arr (hts (.arrayClass .long) (by decide +kernel))
  obtain ⟨y2, a2, f2⟩ := st_arr (hts (.arrayClass .boolean) (by decide +kernel))
  have hO3 := hts (.arrayOver (.object "DialGarden$House")) (by decide +kernel)
  obtain ⟨y3, a3, f3⟩ := st_over hO3
  have hO4 := hts (.arrayOver (.object "DialGarden$Thing")) (by decide +kernel)
  obtain ⟨y4, a4, f4⟩ := st_over hO4
  have hZi := hts (.initialized RX10) (by decide +kernel)
  have hZl := hts (.laysStatic "DialGarden" "KINDS_OF" "[I") (by decide +kernel)
  have hNc1 := va_Nc.of (hg (Cond.not (.castable "DialGarden$House" "DialGarden$Dial")) (by decide +kernel))
  have hNc2 := va_Nc.of (hg (Cond.not (.castable "DialGarden$Dial" "DialGarden$House")) (by decide +kernel))
  have harr := hg (Cond.arrayOf (.static "DialGarden" "KINDS_OF" "[I") .int) (by decide +kernel)
  have hlen := va_eqt (hg (Cond.eq (.length (.static "DialGarden" "KINDS_OF" "[I")) (.int 5)) (by decide +kernel))
  have he0 := va_eqt (hg (Cond.eq (.elem (.static "DialGarden" "KINDS_OF" "[I") (.int 0)) (.int 1)) (by decide +kernel))
  have he1 := va_eqt (hg (Cond.eq (.elem (.static "DialGarden" "KINDS_OF" "[I") (.int 1)) (.int 3)) (by decide +kernel))
  have he2 := va_eqt (hg (Cond.eq (.elem (.static "DialGarden" "KINDS_OF" "[I") (.int 2)) (.int 7)) (by decide +kernel))
  have he3 := va_eqt (hg (Cond.eq (.elem (.static "DialGarden" "KINDS_OF" "[I") (.int 3)) (.int 9)) (by decide +kernel))
  have he4 := va_eqt (hg (Cond.eq (.elem (.static "DialGarden" "KINDS_OF" "[I") (.int 4)) (.int 23)) (by decide +kernel))
  obtain ⟨kK, hkv, hkT⟩ := va_Tof (N := 5) (f := gKi) (A := fun q : Nat => s.heap.size ≤ q) (by decide) harr hlen (fun j hj => by
    rcases (show j = 0 ∨ j = 1 ∨ j = 2 ∨ j = 3 ∨ j = 4 by omega) with rfl | rfl | rfl | rfl | rfl
    · exact he0
    · exact he1
    · exact he2
    · exact he3
    · exact he4) hA
  have hkZ := va_Zof hZl hZi hkv hA
  refine ⟨fun k => match k with | 0 => c0 | 1 => c1 | 2 => c2 | 3 => c3 | 4 => c4 | 5 => c5 | 6 => c6 | 7 => c7 | 8 => c8 | 9 => c9 | _ => c10, fun k => match k with | 0 => i0 | 1 => i1 | 2 => i2 | 3 => i3 | 4 => i4 | 5 => i5 | 6 => i6 | 7 => i7 | 8 => i8 | 9 => i9 | _ => i10, fun k => match k with | 0 => y0 | 1 => y1 | 2 => y2 | 3 => y3 | _ => y4, kK, fun fM fC => ⟨⟨⟨?_, ?_⟩, fun _ h => h, fun w hw => va_Nw.of (xN_on w hw) (hts w (xN_in w hw)), hNc1, hNc2, hkZ, hkT⟩, va_AO.of hO3, va_AO.of hO4⟩⟩
  · intro k q hq
    match k, hq with
    | 0, hq => cases hq; exact hK0
    | 1, hq => cases hq; exact hK1
    | 2, hq => cases hq; exact hK2
    | 3, hq => cases hq; exact hK3
    | 4, hq => cases hq; exact hK4
    | 5, hq => cases hq; exact hK5
    | 6, hq => cases hq; exact hK6
    | 7, hq => cases hq; exact hK7
    | 8, hq => cases hq; exact hK8
    | 9, hq => cases hq; exact hK9
    | 10, hq => cases hq; exact hK10
    | k + 11, hq => simp at hq
  · intro k q hq
    match k, hq with
    | 0, hq => cases hq; exact ⟨a0, f0⟩
    | 1, hq => cases hq; exact ⟨a1, f1⟩
    | 2, hq => cases hq; exact ⟨a2, f2⟩
    | 3, hq => cases hq; exact ⟨a3, f3⟩
    | 4, hq => cases hq; exact ⟨a4, f4⟩
    | k + 5, hq => simp at hq
