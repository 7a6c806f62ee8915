/-! HELP for things that are made -/
theorem fr_ex (L : List Nat) : ∃ q : Nat, q ∉ L := by
  refine ⟨L.foldl (· + ·) 0 + 1, fun h => ?_⟩
  have key : ∀ (l : List Nat) (b x : Nat), x ∈ l → x ≤ l.foldl (· + ·) b := by
    intro l
    induction l with
    | nil => intro b x hx; cases hx
    | cons y l ih =>
      intro b x hx
      have mono : ∀ (l : List Nat) (b : Nat), b ≤ l.foldl (· + ·) b := by
        intro l
        induction l with
        | nil => intro b; exact Nat.le_refl _
        | cons z l ih2 => intro b; exact Nat.le_trans (Nat.le_add_right b z) (ih2 (b + z))
      rcases List.mem_cons.mp hx with e | e
      · subst e; exact Nat.le_trans (Nat.le_add_left x b) (mono l (b + x))
      · exact ih (b + y) x e
  have := key L 0 _ h
  omega
def sD (S : gSc) (a j : Nat) (v : Int32) : gSc := (S.1, S.2.1, S.2.2.1, S.2.2.2.1, va_up S.2.2.2.2 a (upd (S.2.2.2.2 a) j v))
theorem wJ_fresh {E : gEE} {M : gSm} {S : gSc} {q : Nat} {e : va_E} (hD : va_D (eA E) (wJ E M S ++ [(q, e)])) : q ∉ S.2.2.1 := by
  intro h
  obtain ⟨k, hk⟩ := wJ_at E M h
  have hlt : k < (wJ E M S).length := (List.getElem?_eq_some_iff.mp hk).1
  have h1 : (wJ E M S ++ [(q, e)])[k]? = some (q, gT S q) := by rw [List.getElem?_append_left hlt]; exact hk
  have h2 : (wJ E M S ++ [(q, e)])[(wJ E M S).length]? = some (q, e) := by simp
  have := hD.1 _ _ _ _ h1 h2 rfl
  omega
theorem wJ_new (E : gEE) (M : gSm) (S : gSc) {q : Nat} (k : Nat) (f : Nat → Int32) (hf : q ∉ S.2.2.1) {e : va_E} (he : e = gT (sN S q k f) q) : wJ E M S ++ [(q, e)] = wJ E M (sN S q k f) := by
  unfold wJ
  rw [List.append_assoc, List.append_assoc]
  congr 1
  show wC E S ++ (va_pl S.2.2.1 (gT S) ++ [(q, e)]) = wC E S ++ va_pl (S.2.2.1 ++ [q]) (gT (sN S q k f))
  congr 1
  rw [va_pl_push hf]
  refine va_pl_congr (fun b => ?_)
  by_cases hb : b = q
  · subst hb; rw [he]; exact if_pos rfl
  · rw [va_up_ne _ _ hb]
    show gT S b = gT (sN S q k f) b
    unfold gT sN
    simp only [va_up_ne _ _ hb]
theorem wJ_newD (E : gEE) (M : gSm) (S : gSc) {q : Nat} (hf : q ∉ S.2.2.1) : wJ E M S ++ [(q, .inr (1, [.int 0, .int 0, .int 0, .int 0, .int 0, .int 0, .int 0]))] = wJ E M (sN S q 1 (fun _ => 0)) := by
  refine wJ_new E M S 1 _ hf ?_
  unfold gT sN
  simp [va_up]
theorem wJ_newH (E : gEE) (M : gSm) (S : gSc) {q : Nat} (hf : q ∉ S.2.2.1) : wJ E M S ++ [(q, .inr (2, [.int 0, .int 0, .int 0, .int 0, .int 0]))] = wJ E M (sN S q 2 (fun _ => 0)) := by
  refine wJ_new E M S 2 _ hf ?_
  unfold gT sN
  simp [va_up]
theorem wJ_sD (E : gEE) (M : gSm) (S : gSc) {a k : Nat} (j : Nat) (v : Int32) (hD : va_D (eA E) (wJ E M S)) (hL : a ∈ S.2.2.1) (hk : (wJ E M S)[k]? = some (a, gT S a)) {e : va_E} (he : e = gT (sD S a j v) a) : (wJ E M S).set k (a, e) = wJ E M (sD S a j v) := by
  have e1 : wJ E M S = (wM E M ++ wC E S) ++ va_pl S.2.2.1 (gT S) := by unfold wJ; rw [List.append_assoc]
  have e2 : wJ E M (sD S a j v) = (wM E M ++ wC E S) ++ va_pl S.2.2.1 (gT (sD S a j v)) := by unfold wJ; rw [List.append_assoc]; rfl
  rw [e1] at hD hk
  rw [e1, e2, va_pl_set hD hL hk]
  congr 1
  refine va_pl_congr (fun b => ?_)
  by_cases hb : b = a
  · subst hb; rw [he]; exact if_pos rfl
  · rw [va_up_ne _ _ hb]
    show gT S b = gT (sD S a j v) b
    unfold gT sD
    simp only [va_up_ne _ _ hb]
theorem gT_sDd {S : gSc} {a : Nat} (h : S.2.2.2.1 a = 1) (j : Nat) (v : Int32) : gT (sD S a j v) a = .inr (1, [.int (upd (S.2.2.2.2 a) j v 0), .int (upd (S.2.2.2.2 a) j v 1), .int (upd (S.2.2.2.2 a) j v 2), .int (upd (S.2.2.2.2 a) j v 3), .int (upd (S.2.2.2.2 a) j v 4), .int (upd (S.2.2.2.2 a) j v 5), .int (upd (S.2.2.2.2 a) j v 6)]) := by
  unfold gT sD
  simp only [h, if_true, va_up]
theorem gT_sDh {S : gSc} {a : Nat} (h : ¬ S.2.2.2.1 a = 1) (j : Nat) (v : Int32) : gT (sD S a j v) a = .inr (2, [.int (upd (S.2.2.2.2 a) j v 0), .int (upd (S.2.2.2.2 a) j v 1), .int (upd (S.2.2.2.2 a) j v 2), .int (upd (S.2.2.2.2 a) j v 3), .int (upd (S.2.2.2.2 a) j v 4)]) := by
  unfold gT sD
  simp only [h, if_false, if_true, va_up]
theorem wJ_sDd (E : gEE) (M : gSm) (S : gSc) {a k : Nat} (j : Nat) (v : Int32) (hD : va_D (eA E) (wJ E M S)) (hL : a ∈ S.2.2.1) (h : S.2.2.2.1 a = 1) (hk : (wJ E M S)[k]? = some (a, .inr (1, [.int (S.2.2.2.2 a 0), .int (S.2.2.2.2 a 1), .int (S.2.2.2.2 a 2), .int (S.2.2.2.2 a 3), .int (S.2.2.2.2 a 4), .int (S.2.2.2.2 a 5), .int (S.2.2.2.2 a 6)]))) : (wJ E M S).set k (a, .inr (1, [.int (upd (S.2.2.2.2 a) j v 0), .int (upd (S.2.2.2.2 a) j v 1), .int (upd (S.2.2.2.2 a) j v 2), .int (upd (S.2.2.2.2 a) j v 3), .int (upd (S.2.2.2.2 a) j v 4), .int (upd (S.2.2.2.2 a) j v 5), .int (upd (S.2.2.2.2 a) j v 6)])) = wJ E M (sD S a j v) :=
  wJ_sD E M S j v hD hL (by rw [gT_d h]; exact hk) (gT_sDd h j v).symm
theorem wJ_sDh (E : gEE) (M : gSm) (S : gSc) {a k : Nat} (j : Nat) (v : Int32) (hD : va_D (eA E) (wJ E M S)) (hL : a ∈ S.2.2.1) (h : ¬ S.2.2.2.1 a = 1) (hk : (wJ E M S)[k]? = some (a, .inr (2, [.int (S.2.2.2.2 a 0), .int (S.2.2.2.2 a 1), .int (S.2.2.2.2 a 2), .int (S.2.2.2.2 a 3), .int (S.2.2.2.2 a 4)]))) : (wJ E M S).set k (a, .inr (2, [.int (upd (S.2.2.2.2 a) j v 0), .int (upd (S.2.2.2.2 a) j v 1), .int (upd (S.2.2.2.2 a) j v 2), .int (upd (S.2.2.2.2 a) j v 3), .int (upd (S.2.2.2.2 a) j v 4)])) = wJ E M (sD S a j v) :=
  wJ_sD E M S j v hD hL (by rw [gT_h h]; exact hk) (gT_sDh h j v).symm
theorem da_of {S : gSc} {a : Nat} {p k : Int32} (hT : okR S 3 40) (e : some a = q_X10_dialAt S p k) : a ∈ S.2.2.1 ∧ S.2.2.2.1 a = 1 := by
  unfold q_X10_dialAt at e
  simp only [] at e
  split at e
  · cases e
  · next h1 =>
    split at e
    · cases e
    · next b hb =>
      split at e
      · next h2 =>
        split at e
        · cases e
        · cases e
          exact ⟨hT _ _ (isP_lt (isPc_of rfl h1)) hb, h2⟩
      · cases e
theorem okR_new {S : gSc} {k n q kd : Nat} {f : Nat → Int32} (h : okR S k n) : okR (sN S q kd f) k n := fun j a hj e => List.mem_append_left _ (h j a hj e)
theorem okR_L {S Y : gSc} {k n : Nat} (h : okR S k n) (e1 : Y.2.1 = S.2.1) (e2 : ∀ a, a ∈ S.2.2.1 → a ∈ Y.2.2.1) : okR Y k n := fun j a hj e => e2 a (h j a hj (by rw [← e1]; exact e))
theorem in_ne {a q : Nat} {L : List Nat} (h : a ∈ L) (hf : q ∉ L) : a ≠ q := fun z => hf (by rw [← z]; exact h)
theorem va_up_s {f : Nat → Nat} {k v : Nat} : va_up f k v k = v := if_pos rfl
theorem lth_of {S : gSc} {a : Nat} (hC : okR S 6 16) (h0 : 0 ≤ (S.1 4 2).toInt) (h1 : (S.1 4 2).toInt < 16) (e : some a = q_X0_latestThing S) : a ∈ S.2.2.1 := by
  unfold q_X0_latestThing at e
  split at e
  · cases e
  · next b hb =>
    cases e
    exact hC _ _ (show (S.1 4 2).toInt.toNat < 16 by omega) hb
theorem un_in {S : gSc} {r : Int32} (e : r = q_X0_latestPlace S) (h0 : 0 ≤ (S.1 4 2).toInt) (h1 : (S.1 4 2).toInt < 16) (hcp : ∀ j, j < 16 → isP (S.1 5 j)) : vp_in r 40 := by
  have h := hcp _ (show (S.1 4 2).toInt.toNat < 16 by omega)
  rw [e]
  exact vx h.1 h.2
theorem i_ge0 {n : Int32} (c : ¬ n < 0) : 0 ≤ n.toInt := i_nlt c
theorem cc_s {r a n k : Int32} (e : r = q_X10_within (a.toInt64) 0 ((k - n).toInt64)) (h : ¬ r = 0) (c : ¬ n < 0) (h0 : 0 ≤ k.toInt) (hk : k.toInt ≤ 366) : ¬ a < 0 ∧ a.toNatClampNeg + n.toNatClampNeg ≤ 366 := by
  have hn := i_ge0 c
  have g := cp_1 (k := k) e h hn h0
  refine ⟨fun q => ?_, ?_⟩
  · have := i_lt q
    have e0 : (0 : Int32).toInt = 0 := by decide
    omega
  · show a.toInt.toNat + n.toInt.toNat ≤ 366
    omega
section K6
variable {p : Program} {l : Launch} {e : Env} {R : Room} {s : State} {m : MethodId} {args : Array Value} {below : List Frame} {meth : Method} {c : Code} {H : Heap} {locs : List Loc} {cells slots : Nat} {Q : State → Prop}
variable {pc : Nat} {ls : Array Slot} {rest st0 : List Value} {a : Array Value}
theorem k_Sv {post : Unit → Prop} (hr : va_Run p l e R s m args below meth c H locs cells slots 0 0 (F0 m pc ls st0) rest (va_Sv post a) (fun _ => False))
    (kk : post () → W p l e R s m args below meth c H locs cells slots Q (F0 m (pc + 3) ls rest)) : W p l e R s m args below meth c H locs cells slots Q (F0 m pc ls st0) := by
  intro T hT X
  obtain ⟨v, st₀, t, T', L, h0, X', hL, e1, -, ⟨hv, hp, hh⟩, st⟩ := hr T hT X
  cases hv
  obtain ⟨t2, a1, b1⟩ := kk hp T' (by rw [e1, hh, h0]) (Stand.forget X' (fun q h => (hL q h).elim))
  exact ⟨t2, st t2 a1, b1⟩
end K6
set_option maxHeartbeats 4000000 in
set_option maxRecDepth 100000 in
theorem c_X9_init (l : Launch) (a : Nat) : Met l yX9_init wsX9_init ({ frames := 1, cells := 0, slots := 0, locals := 12 }) (va_Pc [.ref a] (fun _ => True)) (va_Sv (fun _ => True)) 0 0 (fun _ => False) := by
  refine Met.ofW (cc := cX9_init) (maxL := 1) (ret := none) (by decide) rfl ?_
  intro p e s m args below meth c s₁ B hml hv
  obtain ⟨rfl, -⟩ := hv
  have hx := B.exec
  have hb := B.bytes
  have hr := B.returns
  have hts := atoms_spec (ws := wsX9_init) B.pre
  have hown : s.vm.findClass RX9 = some m.cls := findClass_of_methodNamed B.named
  have hlocks := B.notSynchronized
  have hl := lv_entry ([.ref a]) (n := 1) (Nat.le_of_ble_eq_true rfl)
  rw [lg_entry_eq]
  generalize (lg_sl ([.ref a]) ++ List.replicate (1 - (lg_sl ([.ref a])).length) Slot.unset).toArray = ls at hl ⊢
  have hl : lv_has ls 1 [(0, .ref a)] := hl
  refine lv_aload_n hx hb dX9_init_0 rfl (lv_at hl 0 rfl) ?_
  refine W.objInit hx hb hown (hts (.methodLink RX9 1 objectInit) (by decide +kernel)) (hts (.instanceMethod objectInit) (by decide +kernel)) (hts _ (List.mem_cons_of_mem _ (List.mem_of_getElem? (i := 2) rfl))) rfl (by rw [hml]; exact hl.1) rfl dX9_init_1 (Nat.le_of_ble_eq_true rfl) (Nat.le_of_ble_eq_true rfl) ?_
  refine W.eq (g2 := F0 m 4 ls []) rfl ?_
  exact W.vret hx hb hr (fun t ht _ => ⟨rfl, trivial, ht⟩) (fun _ h => nomatch h) dX9_init_4
