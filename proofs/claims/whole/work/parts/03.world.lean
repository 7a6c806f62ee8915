/-! THE WORLD: the reference (11 cells), the object (27 cells), its things (a pool). Printed by gen/world.py -/
abbrev gSm : Type := (Nat → Nat → Int32) × (Nat → Nat → Int64)
abbrev gSc : Type := (Nat → Nat → Int32) × (Nat → Nat → Option Nat) × List Nat × (Nat → Nat) × (Nat → Nat → Int32)
abbrev gEE : Type := (Nat → ClassId) × (Nat → Nat → Nat) × (Nat → Prop) × (Nat → Nat) × (Nat → Nat) × (Nat → ClassId) × Nat
abbrev eD (E : gEE) : va_G := (E.1, E.2.1)
abbrev eA (E : gEE) : Nat → Prop := E.2.2.1
abbrev eM (E : gEE) : Nat → Nat := E.2.2.2.1
abbrev eC (E : gEE) : Nat → Nat := E.2.2.2.2.1
abbrev eY (E : gEE) : Nat → ClassId := E.2.2.2.2.2.1
abbrev eK (E : gEE) : Nat := E.2.2.2.2.2.2
abbrev eT (E : gEE) : List (ClassId × FieldType) := [(eY E 0, .int), (eY E 1, .long), (eY E 2, .boolean), (eY E 3, .object "DialGarden$House"), (eY E 4, .object "DialGarden$Thing")]
def wM (E : gEE) (M : gSm) : va_W := [(eM E 0, .inr (10, [.ref (eM E 1), .ref (eM E 2), .ref (eM E 3), .int ((M.1 0) 3), .int ((M.1 0) 4), .ref (eM E 4), .int ((M.1 0) 6), .ref (eM E 5), .int ((M.1 0) 8), .ref (eM E 6), .int ((M.1 0) 10), .long ((M.2 0) 11), .long ((M.2 0) 12), .long ((M.2 0) 13), .long ((M.2 0) 14), .long ((M.2 0) 15), .ref (eM E 7), .ref (eM E 8), .ref (eM E 9), .ref (eM E 10), .int ((M.1 0) 20), .int ((M.1 0) 21), .long ((M.2 0) 22)])),
  (eM E 1, .inl (eY E 0, 280, .inl (M.1 1))),
  (eM E 2, .inl (eY E 0, 16, .inl (M.1 2))),
  (eM E 3, .inl (eY E 0, 112, .inl (M.1 3))),
  (eM E 4, .inl (eY E 0, 366, .inl (M.1 4))),
  (eM E 5, .inl (eY E 0, 80, .inl (M.1 5))),
  (eM E 6, .inl (eY E 0, 601, .inl (M.1 6))),
  (eM E 7, .inl (eY E 1, 7, .inr (.inl (M.2 7)))),
  (eM E 8, .inl (eY E 1, 24, .inr (.inl (M.2 8)))),
  (eM E 9, .inl (eY E 1, 24, .inr (.inl (M.2 9)))),
  (eM E 10, .inl (eY E 2, 24, .inl (M.1 10)))]
def wC (E : gEE) (S : gSc) : va_W := [(eC E 0, .inr (9, [.ref (eC E 1), .ref (eC E 3), .ref (eC E 4), .ref (eC E 7), .ref (eC E 13), .ref (eC E 17), .ref (eC E 22), .int ((S.1 0) 7), .ref (eC E 23), .ref (eC E 24), .ref (eC E 25), .ref (eC E 26)])),
  (eC E 1, .inr (8, [.ref (eC E 2), .int ((S.1 1) 1), .int ((S.1 1) 2), .int ((S.1 1) 3), .int ((S.1 1) 4), .int ((S.1 1) 5), .int ((S.1 1) 6), .int ((S.1 1) 7), .int ((S.1 1) 8), .int ((S.1 1) 9), .int ((S.1 1) 10), .int ((S.1 1) 11), .int ((S.1 1) 12), .int ((S.1 1) 13), .int ((S.1 1) 14), .int ((S.1 1) 15)])),
  (eC E 2, .inl (eY E 0, 366, .inl (S.1 2))),
  (eC E 3, .inl (eY E 4, 40, .inr (.inr (.inr (.inr (S.2.1 3)))))),
  (eC E 4, .inr (0, [.ref (eC E 5), .ref (eC E 6), .int ((S.1 4) 2), .int ((S.1 4) 3)])),
  (eC E 5, .inl (eY E 0, 16, .inl (S.1 5))),
  (eC E 6, .inl (eY E 4, 16, .inr (.inr (.inr (.inr (S.2.1 6)))))),
  (eC E 7, .inr (6, [.ref (eC E 8), .ref (eC E 9), .ref (eC E 10), .ref (eC E 11), .ref (eC E 12), .int ((S.1 7) 6), .int ((S.1 7) 7), .int ((S.1 7) 8), .int ((S.1 7) 9), .int ((S.1 7) 10), .int ((S.1 7) 11), .int ((S.1 7) 12), .int ((S.1 7) 13)])),
  (eC E 8, .inr (5, [.int ((S.1 8) 0), .int ((S.1 8) 1), .int ((S.1 8) 2)])),
  (eC E 9, .inr (5, [.int ((S.1 9) 0), .int ((S.1 9) 1), .int ((S.1 9) 2)])),
  (eC E 10, .inr (5, [.int ((S.1 10) 0), .int ((S.1 10) 1), .int ((S.1 10) 2)])),
  (eC E 11, .inl (eY E 3, 40, .inr (.inr (.inr (.inr (S.2.1 11)))))),
  (eC E 12, .inl (eY E 0, 40, .inl (S.1 12))),
  (eC E 13, .inr (3, [.ref (eC E 14), .ref (eC E 15), .ref (eC E 16), .int ((S.1 13) 3), .int ((S.1 13) 4), .int ((S.1 13) 5), .int ((S.1 13) 6)])),
  (eC E 14, .inl (eY E 0, 24, .inl (S.1 14))),
  (eC E 15, .inl (eY E 0, 24, .inl (S.1 15))),
  (eC E 16, .inl (eY E 0, 24, .inl (S.1 16))),
  (eC E 17, .inr (7, [.ref (eC E 18), .ref (eC E 19), .ref (eC E 20), .ref (eC E 21), .int ((S.1 17) 4)])),
  (eC E 18, .inl (eY E 0, 20, .inl (S.1 18))),
  (eC E 19, .inl (eY E 0, 20, .inl (S.1 19))),
  (eC E 20, .inl (eY E 0, 20, .inl (S.1 20))),
  (eC E 21, .inl (eY E 0, 20, .inl (S.1 21))),
  (eC E 22, .inl (eY E 0, 601, .inl (S.1 22))),
  (eC E 23, .inr (4, [.int ((S.1 23) 0), .int ((S.1 23) 1), .int ((S.1 23) 2)])),
  (eC E 24, .inr (4, [.int ((S.1 24) 0), .int ((S.1 24) 1), .int ((S.1 24) 2)])),
  (eC E 25, .inr (4, [.int ((S.1 25) 0), .int ((S.1 25) 1), .int ((S.1 25) 2)])),
  (eC E 26, .inr (4, [.int ((S.1 26) 0), .int ((S.1 26) 1), .int ((S.1 26) 2)]))]
def gT (S : gSc) : Nat → va_E := fun a => if S.2.2.2.1 a = 1 then .inr (1, [.int (S.2.2.2.2 a 0), .int (S.2.2.2.2 a 1), .int (S.2.2.2.2 a 2), .int (S.2.2.2.2 a 3), .int (S.2.2.2.2 a 4), .int (S.2.2.2.2 a 5), .int (S.2.2.2.2 a 6)]) else .inr (2, [.int (S.2.2.2.2 a 0), .int (S.2.2.2.2 a 1), .int (S.2.2.2.2 a 2), .int (S.2.2.2.2 a 3), .int (S.2.2.2.2 a 4)])
def wJ (E : gEE) (M : gSm) (S : gSc) : va_W := wM E M ++ (wC E S ++ va_pl S.2.2.1 (gT S))
def mI (M : gSm) (k : Nat) (f : Nat → Int32) : gSm := (va_up M.1 k f, M.2)
def mJ (M : gSm) (k : Nat) (f : Nat → Int64) : gSm := (M.1, va_up M.2 k f)
def sI (S : gSc) (k : Nat) (f : Nat → Int32) : gSc := (va_up S.1 k f, S.2)
def sR (S : gSc) (k : Nat) (f : Nat → Option Nat) : gSc := (S.1, va_up S.2.1 k f, S.2.2)
def sN (S : gSc) (a k : Nat) (f : Nat → Int32) : gSc := (S.1, S.2.1, S.2.2.1 ++ [a], va_up S.2.2.2.1 a k, va_up S.2.2.2.2 a f)
def pI (S : gSc) (k j : Nat) (v : Int32) : gSc := sI S k (upd (S.1 k) j v)
def pM (M : gSm) (k j : Nat) (v : Int32) : gSm := mI M k (upd (M.1 k) j v)
def pJ (M : gSm) (k j : Nat) (v : Int64) : gSm := mJ M k (vp_updL (M.2 k) j v)
theorem uM_0_3 (E : gEE) (M : gSm) (S : gSc) (v : Int32) : (wJ E M S).set 0 (eM E 0, .inr (10, [.ref (eM E 1), .ref (eM E 2), .ref (eM E 3), .int v, .int ((M.1 0) 4), .ref (eM E 4), .int ((M.1 0) 6), .ref (eM E 5), .int ((M.1 0) 8), .ref (eM E 6), .int ((M.1 0) 10), .long ((M.2 0) 11), .long ((M.2 0) 12), .long ((M.2 0) 13), .long ((M.2 0) 14), .long ((M.2 0) 15), .ref (eM E 7), .ref (eM E 8), .ref (eM E 9), .ref (eM E 10), .int ((M.1 0) 20), .int ((M.1 0) 21), .long ((M.2 0) 22)])) = wJ E (pM M 0 3 v) S := rfl
theorem uM_0_4 (E : gEE) (M : gSm) (S : gSc) (v : Int32) : (wJ E M S).set 0 (eM E 0, .inr (10, [.ref (eM E 1), .ref (eM E 2), .ref (eM E 3), .int ((M.1 0) 3), .int v, .ref (eM E 4), .int ((M.1 0) 6), .ref (eM E 5), .int ((M.1 0) 8), .ref (eM E 6), .int ((M.1 0) 10), .long ((M.2 0) 11), .long ((M.2 0) 12), .long ((M.2 0) 13), .long ((M.2 0) 14), .long ((M.2 0) 15), .ref (eM E 7), .ref (eM E 8), .ref (eM E 9), .ref (eM E 10), .int ((M.1 0) 20), .int ((M.1 0) 21), .long ((M.2 0) 22)])) = wJ E (pM M 0 4 v) S := rfl
theorem uM_0_6 (E : gEE) (M : gSm) (S : gSc) (v : Int32) : (wJ E M S).set 0 (eM E 0, .inr (10, [.ref (eM E 1), .ref (eM E 2), .ref (eM E 3), .int ((M.1 0) 3), .int ((M.1 0) 4), .ref (eM E 4), .int v, .ref (eM E 5), .int ((M.1 0) 8), .ref (eM E 6), .int ((M.1 0) 10), .long ((M.2 0) 11), .long ((M.2 0) 12), .long ((M.2 0) 13), .long ((M.2 0) 14), .long ((M.2 0) 15), .ref (eM E 7), .ref (eM E 8), .ref (eM E 9), .ref (eM E 10), .int ((M.1 0) 20), .int ((M.1 0) 21), .long ((M.2 0) 22)])) = wJ E (pM M 0 6 v) S := rfl
theorem uM_0_8 (E : gEE) (M : gSm) (S : gSc) (v : Int32) : (wJ E M S).set 0 (eM E 0, .inr (10, [.ref (eM E 1), .ref (eM E 2), .ref (eM E 3), .int ((M.1 0) 3), .int ((M.1 0) 4), .ref (eM E 4), .int ((M.1 0) 6), .ref (eM E 5), .int v, .ref (eM E 6), .int ((M.1 0) 10), .long ((M.2 0) 11), .long ((M.2 0) 12), .long ((M.2 0) 13), .long ((M.2 0) 14), .long ((M.2 0) 15), .ref (eM E 7), .ref (eM E 8), .ref (eM E 9), .ref (eM E 10), .int ((M.1 0) 20), .int ((M.1 0) 21), .long ((M.2 0) 22)])) = wJ E (pM M 0 8 v) S := rfl
theorem uM_0_10 (E : gEE) (M : gSm) (S : gSc) (v : Int32) : (wJ E M S).set 0 (eM E 0, .inr (10, [.ref (eM E 1), .ref (eM E 2), .ref (eM E 3), .int ((M.1 0) 3), .int ((M.1 0) 4), .ref (eM E 4), .int ((M.1 0) 6), .ref (eM E 5), .int ((M.1 0) 8), .ref (eM E 6), .int v, .long ((M.2 0) 11), .long ((M.2 0) 12), .long ((M.2 0) 13), .long ((M.2 0) 14), .long ((M.2 0) 15), .ref (eM E 7), .ref (eM E 8), .ref (eM E 9), .ref (eM E 10), .int ((M.1 0) 20), .int ((M.1 0) 21), .long ((M.2 0) 22)])) = wJ E (pM M 0 10 v) S := rfl
theorem uM_0_11 (E : gEE) (M : gSm) (S : gSc) (v : Int64) : (wJ E M S).set 0 (eM E 0, .inr (10, [.ref (eM E 1), .ref (eM E 2), .ref (eM E 3), .int ((M.1 0) 3), .int ((M.1 0) 4), .ref (eM E 4), .int ((M.1 0) 6), .ref (eM E 5), .int ((M.1 0) 8), .ref (eM E 6), .int ((M.1 0) 10), .long v, .long ((M.2 0) 12), .long ((M.2 0) 13), .long ((M.2 0) 14), .long ((M.2 0) 15), .ref (eM E 7), .ref (eM E 8), .ref (eM E 9), .ref (eM E 10), .int ((M.1 0) 20), .int ((M.1 0) 21), .long ((M.2 0) 22)])) = wJ E (pJ M 0 11 v) S := rfl
theorem uM_0_12 (E : gEE) (M : gSm) (S : gSc) (v : Int64) : (wJ E M S).set 0 (eM E 0, .inr (10, [.ref (eM E 1), .ref (eM E 2), .ref (eM E 3), .int ((M.1 0) 3), .int ((M.1 0) 4), .ref (eM E 4), .int ((M.1 0) 6), .ref (eM E 5), .int ((M.1 0) 8), .ref (eM E 6), .int ((M.1 0) 10), .long ((M.2 0) 11), .long v, .long ((M.2 0) 13), .long ((M.2 0) 14), .long ((M.2 0) 15), .ref (eM E 7), .ref (eM E 8), .ref (eM E 9), .ref (eM E 10), .int ((M.1 0) 20), .int ((M.1 0) 21), .long ((M.2 0) 22)])) = wJ E (pJ M 0 12 v) S := rfl
theorem uM_0_13 (E : gEE) (M : gSm) (S : gSc) (v : Int64) : (wJ E M S).set 0 (eM E 0, .inr (10, [.ref (eM E 1), .ref (eM E 2), .ref (eM E 3), .int ((M.1 0) 3), .int ((M.1 0) 4), .ref (eM E 4), .int ((M.1 0) 6), .ref (eM E 5), .int ((M.1 0) 8), .ref (eM E 6), .int ((M.1 0) 10), .long ((M.2 0) 11), .long ((M.2 0) 12), .long v, .long ((M.2 0) 14), .long ((M.2 0) 15), .ref (eM E 7), .ref (eM E 8), .ref (eM E 9), .ref (eM E 10), .int ((M.1 0) 20), .int ((M.1 0) 21), .long ((M.2 0) 22)])) = wJ E (pJ M 0 13 v) S := rfl
theorem uM_0_14 (E : gEE) (M : gSm) (S : gSc) (v : Int64) : (wJ E M S).set 0 (eM E 0, .inr (10, [.ref (eM E 1), .ref (eM E 2), .ref (eM E 3), .int ((M.1 0) 3), .int ((M.1 0) 4), .ref (eM E 4), .int ((M.1 0) 6), .ref (eM E 5), .int ((M.1 0) 8), .ref (eM E 6), .int ((M.1 0) 10), .long ((M.2 0) 11), .long ((M.2 0) 12), .long ((M.2 0) 13), .long v, .long ((M.2 0) 15), .ref (eM E 7), .ref (eM E 8), .ref (eM E 9), .ref (eM E 10), .int ((M.1 0) 20), .int ((M.1 0) 21), .long ((M.2 0) 22)])) = wJ E (pJ M 0 14 v) S := rfl
theorem uM_0_15 (E : gEE) (M : gSm) (S : gSc) (v : Int64) : (wJ E M S).set 0 (eM E 0, .inr (10, [.ref (eM E 1), .ref (eM E 2), .ref (eM E 3), .int ((M.1 0) 3), .int ((M.1 0) 4), .ref (eM E 4), .int ((M.1 0) 6), .ref (eM E 5), .int ((M.1 0) 8), .ref (eM E 6), .int ((M.1 0) 10), .long ((M.2 0) 11), .long ((M.2 0) 12), .long ((M.2 0) 13), .long ((M.2 0) 14), .long v, .ref (eM E 7), .ref (eM E 8), .ref (eM E 9), .ref (eM E 10), .int ((M.1 0) 20), .int ((M.1 0) 21), .long ((M.2 0) 22)])) = wJ E (pJ M 0 15 v) S := rfl
theorem uM_0_20 (E : gEE) (M : gSm) (S : gSc) (v : Int32) : (wJ E M S).set 0 (eM E 0, .inr (10, [.ref (eM E 1), .ref (eM E 2), .ref (eM E 3), .int ((M.1 0) 3), .int ((M.1 0) 4), .ref (eM E 4), .int ((M.1 0) 6), .ref (eM E 5), .int ((M.1 0) 8), .ref (eM E 6), .int ((M.1 0) 10), .long ((M.2 0) 11), .long ((M.2 0) 12), .long ((M.2 0) 13), .long ((M.2 0) 14), .long ((M.2 0) 15), .ref (eM E 7), .ref (eM E 8), .ref (eM E 9), .ref (eM E 10), .int v, .int ((M.1 0) 21), .long ((M.2 0) 22)])) = wJ E (pM M 0 20 v) S := rfl
theorem uM_0_21 (E : gEE) (M : gSm) (S : gSc) (v : Int32) : (wJ E M S).set 0 (eM E 0, .inr (10, [.ref (eM E 1), .ref (eM E 2), .ref (eM E 3), .int ((M.1 0) 3), .int ((M.1 0) 4), .ref (eM E 4), .int ((M.1 0) 6), .ref (eM E 5), .int ((M.1 0) 8), .ref (eM E 6), .int ((M.1 0) 10), .long ((M.2 0) 11), .long ((M.2 0) 12), .long ((M.2 0) 13), .long ((M.2 0) 14), .long ((M.2 0) 15), .ref (eM E 7), .ref (eM E 8), .ref (eM E 9), .ref (eM E 10), .int ((M.1 0) 20), .int v, .long ((M.2 0) 22)])) = wJ E (pM M 0 21 v) S := rfl
theorem uM_0_22 (E : gEE) (M : gSm) (S : gSc) (v : Int64) : (wJ E M S).set 0 (eM E 0, .inr (10, [.ref (eM E 1), .ref (eM E 2), .ref (eM E 3), .int ((M.1 0) 3), .int ((M.1 0) 4), .ref (eM E 4), .int ((M.1 0) 6), .ref (eM E 5), .int ((M.1 0) 8), .ref (eM E 6), .int ((M.1 0) 10), .long ((M.2 0) 11), .long ((M.2 0) 12), .long ((M.2 0) 13), .long ((M.2 0) 14), .long ((M.2 0) 15), .ref (eM E 7), .ref (eM E 8), .ref (eM E 9), .ref (eM E 10), .int ((M.1 0) 20), .int ((M.1 0) 21), .long v])) = wJ E (pJ M 0 22 v) S := rfl
theorem uC_0_7 (E : gEE) (M : gSm) (S : gSc) (v : Int32) : (wJ E M S).set 11 (eC E 0, .inr (9, [.ref (eC E 1), .ref (eC E 3), .ref (eC E 4), .ref (eC E 7), .ref (eC E 13), .ref (eC E 17), .ref (eC E 22), .int v, .ref (eC E 23), .ref (eC E 24), .ref (eC E 25), .ref (eC E 26)])) = wJ E M (pI S 0 7 v) := rfl
theorem uC_1_1 (E : gEE) (M : gSm) (S : gSc) (v : Int32) : (wJ E M S).set 12 (eC E 1, .inr (8, [.ref (eC E 2), .int v, .int ((S.1 1) 2), .int ((S.1 1) 3), .int ((S.1 1) 4), .int ((S.1 1) 5), .int ((S.1 1) 6), .int ((S.1 1) 7), .int ((S.1 1) 8), .int ((S.1 1) 9), .int ((S.1 1) 10), .int ((S.1 1) 11), .int ((S.1 1) 12), .int ((S.1 1) 13), .int ((S.1 1) 14), .int ((S.1 1) 15)])) = wJ E M (pI S 1 1 v) := rfl
theorem uC_1_2 (E : gEE) (M : gSm) (S : gSc) (v : Int32) : (wJ E M S).set 12 (eC E 1, .inr (8, [.ref (eC E 2), .int ((S.1 1) 1), .int v, .int ((S.1 1) 3), .int ((S.1 1) 4), .int ((S.1 1) 5), .int ((S.1 1) 6), .int ((S.1 1) 7), .int ((S.1 1) 8), .int ((S.1 1) 9), .int ((S.1 1) 10), .int ((S.1 1) 11), .int ((S.1 1) 12), .int ((S.1 1) 13), .int ((S.1 1) 14), .int ((S.1 1) 15)])) = wJ E M (pI S 1 2 v) := rfl
theorem uC_1_3 (E : gEE) (M : gSm) (S : gSc) (v : Int32) : (wJ E M S).set 12 (eC E 1, .inr (8, [.ref (eC E 2), .int ((S.1 1) 1), .int ((S.1 1) 2), .int v, .int ((S.1 1) 4), .int ((S.1 1) 5), .int ((S.1 1) 6), .int ((S.1 1) 7), .int ((S.1 1) 8), .int ((S.1 1) 9), .int ((S.1 1) 10), .int ((S.1 1) 11), .int ((S.1 1) 12), .int ((S.1 1) 13), .int ((S.1 1) 14), .int ((S.1 1) 15)])) = wJ E M (pI S 1 3 v) := rfl
theorem uC_1_4 (E : gEE) (M : gSm) (S : gSc) (v : Int32) : (wJ E M S).set 12 (eC E 1, .inr (8, [.ref (eC E 2), .int ((S.1 1) 1), .int ((S.1 1) 2), .int ((S.1 1) 3), .int v, .int ((S.1 1) 5), .int ((S.1 1) 6), .int ((S.1 1) 7), .int ((S.1 1) 8), .int ((S.1 1) 9), .int ((S.1 1) 10), .int ((S.1 1) 11), .int ((S.1 1) 12), .int ((S.1 1) 13), .int ((S.1 1) 14), .int ((S.1 1) 15)])) = wJ E M (pI S 1 4 v) := rfl
theorem uC_1_5 (E : gEE) (M : gSm) (S : gSc) (v : Int32) : (wJ E M S).set 12 (eC E 1, .inr (8, [.ref (eC E 2), .int ((S.1 1) 1), .int ((S.1 1) 2), .int ((S.1 1) 3), .int ((S.1 1) 4), .int v, .int ((S.1 1) 6), .int ((S.1 1) 7), .int ((S.1 1) 8), .int ((S.1 1) 9), .int ((S.1 1) 10), .int ((S.1 1) 11), .int ((S.1 1) 12), .int ((S.1 1) 13), .int ((S.1 1) 14), .int ((S.1 1) 15)])) = wJ E M (pI S 1 5 v) := rfl
theorem uC_1_6 (E : gEE) (M : gSm) (S : gSc) (v : Int32) : (wJ E M S).set 12 (eC E 1, .inr (8, [.ref (eC E 2), .int ((S.1 1) 1), .int ((S.1 1) 2), .int ((S.1 1) 3), .int ((S.1 1) 4), .int ((S.1 1) 5), .int v, .int ((S.1 1) 7), .int ((S.1 1) 8), .int ((S.1 1) 9), .int ((S.1 1) 10), .int ((S.1 1) 11), .int ((S.1 1) 12), .int ((S.1 1) 13), .int ((S.1 1) 14), .int ((S.1 1) 15)])) = wJ E M (pI S 1 6 v) := rfl
theorem uC_1_7 (E : gEE) (M : gSm) (S : gSc) (v : Int32) : (wJ E M S).set 12 (eC E 1, .inr (8, [.ref (eC E 2), .int ((S.1 1) 1), .int ((S.1 1) 2), .int ((S.1 1) 3), .int ((S.1 1) 4), .int ((S.1 1) 5), .int ((S.1 1) 6), .int v, .int ((S.1 1) 8), .int ((S.1 1) 9), .int ((S.1 1) 10), .int ((S.1 1) 11), .int ((S.1 1) 12), .int ((S.1 1) 13), .int ((S.1 1) 14), .int ((S.1 1) 15)])) = wJ E M (pI S 1 7 v) := rfl
theorem uC_1_8 (E : gEE) (M : gSm) (S : gSc) (v : Int32) : (wJ E M S).set 12 (eC E 1, .inr (8, [.ref (eC E 2), .int ((S.1 1) 1), .int ((S.1 1) 2), .int ((S.1 1) 3), .int ((S.1 1) 4), .int ((S.1 1) 5), .int ((S.1 1) 6), .int ((S.1 1) 7), .int v, .int ((S.1 1) 9), .int ((S.1 1) 10), .int ((S.1 1) 11), .int ((S.1 1) 12), .int ((S.1 1) 13), .int ((S.1 1) 14), .int ((S.1 1) 15)])) = wJ E M (pI S 1 8 v) := rfl
theorem uC_1_9 (E : gEE) (M : gSm) (S : gSc) (v : Int32) : (wJ E M S).set 12 (eC E 1, .inr (8, [.ref (eC E 2), .int ((S.1 1) 1), .int ((S.1 1) 2), .int ((S.1 1) 3), .int ((S.1 1) 4), .int ((S.1 1) 5), .int ((S.1 1) 6), .int ((S.1 1) 7), .int ((S.1 1) 8), .int v, .int ((S.1 1) 10), .int ((S.1 1) 11), .int ((S.1 1) 12), .int ((S.1 1) 13), .int ((S.1 1) 14), .int ((S.1 1) 15)])) = wJ E M (pI S 1 9 v) := rfl
theorem uC_1_10 (E : gEE) (M : gSm) (S : gSc) (v : Int32) : (wJ E M S).set 12 (eC E 1, .inr (8, [.ref (eC E 2), .int ((S.1 1) 1), .int ((S.1 1) 2), .int ((S.1 1) 3), .int ((S.1 1) 4), .int ((S.1 1) 5), .int ((S.1 1) 6), .int ((S.1 1) 7), .int ((S.1 1) 8), .int ((S.1 1) 9), .int v, .int ((S.1 1) 11), .int ((S.1 1) 12), .int ((S.1 1) 13), .int ((S.1 1) 14), .int ((S.1 1) 15)])) = wJ E M (pI S 1 10 v) := rfl
theorem uC_1_11 (E : gEE) (M : gSm) (S : gSc) (v : Int32) : (wJ E M S).set 12 (eC E 1, .inr (8, [.ref (eC E 2), .int ((S.1 1) 1), .int ((S.1 1) 2), .int ((S.1 1) 3), .int ((S.1 1) 4), .int ((S.1 1) 5), .int ((S.1 1) 6), .int ((S.1 1) 7), .int ((S.1 1) 8), .int ((S.1 1) 9), .int ((S.1 1) 10), .int v, .int ((S.1 1) 12), .int ((S.1 1) 13), .int ((S.1 1) 14), .int ((S.1 1) 15)])) = wJ E M (pI S 1 11 v) := rfl
theorem uC_1_12 (E : gEE) (M : gSm) (S : gSc) (v : Int32) : (wJ E M S).set 12 (eC E 1, .inr (8, [.ref (eC E 2), .int ((S.1 1) 1), .int ((S.1 1) 2), .int ((S.1 1) 3), .int ((S.1 1) 4), .int ((S.1 1) 5), .int ((S.1 1) 6), .int ((S.1 1) 7), .int ((S.1 1) 8), .int ((S.1 1) 9), .int ((S.1 1) 10), .int ((S.1 1) 11), .int v, .int ((S.1 1) 13), .int ((S.1 1) 14), .int ((S.1 1) 15)])) = wJ E M (pI S 1 12 v) := rfl
theorem uC_1_13 (E : gEE) (M : gSm) (S : gSc) (v : Int32) : (wJ E M S).set 12 (eC E 1, .inr (8, [.ref (eC E 2), .int ((S.1 1) 1), .int ((S.1 1) 2), .int ((S.1 1) 3), .int ((S.1 1) 4), .int ((S.1 1) 5), .int ((S.1 1) 6), .int ((S.1 1) 7), .int ((S.1 1) 8), .int ((S.1 1) 9), .int ((S.1 1) 10), .int ((S.1 1) 11), .int ((S.1 1) 12), .int v, .int ((S.1 1) 14), .int ((S.1 1) 15)])) = wJ E M (pI S 1 13 v) := rfl
theorem uC_1_14 (E : gEE) (M : gSm) (S : gSc) (v : Int32) : (wJ E M S).set 12 (eC E 1, .inr (8, [.ref (eC E 2), .int ((S.1 1) 1), .int ((S.1 1) 2), .int ((S.1 1) 3), .int ((S.1 1) 4), .int ((S.1 1) 5), .int ((S.1 1) 6), .int ((S.1 1) 7), .int ((S.1 1) 8), .int ((S.1 1) 9), .int ((S.1 1) 10), .int ((S.1 1) 11), .int ((S.1 1) 12), .int ((S.1 1) 13), .int v, .int ((S.1 1) 15)])) = wJ E M (pI S 1 14 v) := rfl
theorem uC_1_15 (E : gEE) (M : gSm) (S : gSc) (v : Int32) : (wJ E M S).set 12 (eC E 1, .inr (8, [.ref (eC E 2), .int ((S.1 1) 1), .int ((S.1 1) 2), .int ((S.1 1) 3), .int ((S.1 1) 4), .int ((S.1 1) 5), .int ((S.1 1) 6), .int ((S.1 1) 7), .int ((S.1 1) 8), .int ((S.1 1) 9), .int ((S.1 1) 10), .int ((S.1 1) 11), .int ((S.1 1) 12), .int ((S.1 1) 13), .int ((S.1 1) 14), .int v])) = wJ E M (pI S 1 15 v) := rfl
theorem uC_4_2 (E : gEE) (M : gSm) (S : gSc) (v : Int32) : (wJ E M S).set 15 (eC E 4, .inr (0, [.ref (eC E 5), .ref (eC E 6), .int v, .int ((S.1 4) 3)])) = wJ E M (pI S 4 2 v) := rfl
theorem uC_4_3 (E : gEE) (M : gSm) (S : gSc) (v : Int32) : (wJ E M S).set 15 (eC E 4, .inr (0, [.ref (eC E 5), .ref (eC E 6), .int ((S.1 4) 2), .int v])) = wJ E M (pI S 4 3 v) := rfl
theorem uC_7_6 (E : gEE) (M : gSm) (S : gSc) (v : Int32) : (wJ E M S).set 18 (eC E 7, .inr (6, [.ref (eC E 8), .ref (eC E 9), .ref (eC E 10), .ref (eC E 11), .ref (eC E 12), .int v, .int ((S.1 7) 7), .int ((S.1 7) 8), .int ((S.1 7) 9), .int ((S.1 7) 10), .int ((S.1 7) 11), .int ((S.1 7) 12), .int ((S.1 7) 13)])) = wJ E M (pI S 7 6 v) := rfl
theorem uC_7_7 (E : gEE) (M : gSm) (S : gSc) (v : Int32) : (wJ E M S).set 18 (eC E 7, .inr (6, [.ref (eC E 8), .ref (eC E 9), .ref (eC E 10), .ref (eC E 11), .ref (eC E 12), .int ((S.1 7) 6), .int v, .int ((S.1 7) 8), .int ((S.1 7) 9), .int ((S.1 7) 10), .int ((S.1 7) 11), .int ((S.1 7) 12), .int ((S.1 7) 13)])) = wJ E M (pI S 7 7 v) := rfl
theorem uC_7_8 (E : gEE) (M : gSm) (S : gSc) (v : Int32) : (wJ E M S).set 18 (eC E 7, .inr (6, [.ref (eC E 8), .ref (eC E 9), .ref (eC E 10), .ref (eC E 11), .ref (eC E 12), .int ((S.1 7) 6), .int ((S.1 7) 7), .int v, .int ((S.1 7) 9), .int ((S.1 7) 10), .int ((S.1 7) 11), .int ((S.1 7) 12), .int ((S.1 7) 13)])) = wJ E M (pI S 7 8 v) := rfl
theorem uC_7_9 (E : gEE) (M : gSm) (S : gSc) (v : Int32) : (wJ E M S).set 18 (eC E 7, .inr (6, [.ref (eC E 8), .ref (eC E 9), .ref (eC E 10), .ref (eC E 11), .ref (eC E 12), .int ((S.1 7) 6), .int ((S.1 7) 7), .int ((S.1 7) 8), .int v, .int ((S.1 7) 10), .int ((S.1 7) 11), .int ((S.1 7) 12), .int ((S.1 7) 13)])) = wJ E M (pI S 7 9 v) := rfl
theorem uC_7_10 (E : gEE) (M : gSm) (S : gSc) (v : Int32) : (wJ E M S).set 18 (eC E 7, .inr (6, [.ref (eC E 8), .ref (eC E 9), .ref (eC E 10), .ref (eC E 11), .ref (eC E 12), .int ((S.1 7) 6), .int ((S.1 7) 7), .int ((S.1 7) 8), .int ((S.1 7) 9), .int v, .int ((S.1 7) 11), .int ((S.1 7) 12), .int ((S.1 7) 13)])) = wJ E M (pI S 7 10 v) := rfl
theorem uC_7_11 (E : gEE) (M : gSm) (S : gSc) (v : Int32) : (wJ E M S).set 18 (eC E 7, .inr (6, [.ref (eC E 8), .ref (eC E 9), .ref (eC E 10), .ref (eC E 11), .ref (eC E 12), .int ((S.1 7) 6), .int ((S.1 7) 7), .int ((S.1 7) 8), .int ((S.1 7) 9), .int ((S.1 7) 10), .int v, .int ((S.1 7) 12), .int ((S.1 7) 13)])) = wJ E M (pI S 7 11 v) := rfl
theorem uC_7_12 (E : gEE) (M : gSm) (S : gSc) (v : Int32) : (wJ E M S).set 18 (eC E 7, .inr (6, [.ref (eC E 8), .ref (eC E 9), .ref (eC E 10), .ref (eC E 11), .ref (eC E 12), .int ((S.1 7) 6), .int ((S.1 7) 7), .int ((S.1 7) 8), .int ((S.1 7) 9), .int ((S.1 7) 10), .int ((S.1 7) 11), .int v, .int ((S.1 7) 13)])) = wJ E M (pI S 7 12 v) := rfl
theorem uC_7_13 (E : gEE) (M : gSm) (S : gSc) (v : Int32) : (wJ E M S).set 18 (eC E 7, .inr (6, [.ref (eC E 8), .ref (eC E 9), .ref (eC E 10), .ref (eC E 11), .ref (eC E 12), .int ((S.1 7) 6), .int ((S.1 7) 7), .int ((S.1 7) 8), .int ((S.1 7) 9), .int ((S.1 7) 10), .int ((S.1 7) 11), .int ((S.1 7) 12), .int v])) = wJ E M (pI S 7 13 v) := rfl
theorem uC_8_0 (E : gEE) (M : gSm) (S : gSc) (v : Int32) : (wJ E M S).set 19 (eC E 8, .inr (5, [.int v, .int ((S.1 8) 1), .int ((S.1 8) 2)])) = wJ E M (pI S 8 0 v) := rfl
theorem uC_8_1 (E : gEE) (M : gSm) (S : gSc) (v : Int32) : (wJ E M S).set 19 (eC E 8, .inr (5, [.int ((S.1 8) 0), .int v, .int ((S.1 8) 2)])) = wJ E M (pI S 8 1 v) := rfl
theorem uC_8_2 (E : gEE) (M : gSm) (S : gSc) (v : Int32) : (wJ E M S).set 19 (eC E 8, .inr (5, [.int ((S.1 8) 0), .int ((S.1 8) 1), .int v])) = wJ E M (pI S 8 2 v) := rfl
theorem uC_9_0 (E : gEE) (M : gSm) (S : gSc) (v : Int32) : (wJ E M S).set 20 (eC E 9, .inr (5, [.int v, .int ((S.1 9) 1), .int ((S.1 9) 2)])) = wJ E M (pI S 9 0 v) := rfl
theorem uC_9_1 (E : gEE) (M : gSm) (S : gSc) (v : Int32) : (wJ E M S).set 20 (eC E 9, .inr (5, [.int ((S.1 9) 0), .int v, .int ((S.1 9) 2)])) = wJ E M (pI S 9 1 v) := rfl
theorem uC_9_2 (E : gEE) (M : gSm) (S : gSc) (v : Int32) : (wJ E M S).set 20 (eC E 9, .inr (5, [.int ((S.1 9) 0), .int ((S.1 9) 1), .int v])) = wJ E M (pI S 9 2 v) := rfl
theorem uC_10_0 (E : gEE) (M : gSm) (S : gSc) (v : Int32) : (wJ E M S).set 21 (eC E 10, .inr (5, [.int v, .int ((S.1 10) 1), .int ((S.1 10) 2)])) = wJ E M (pI S 10 0 v) := rfl
theorem uC_10_1 (E : gEE) (M : gSm) (S : gSc) (v : Int32) : (wJ E M S).set 21 (eC E 10, .inr (5, [.int ((S.1 10) 0), .int v, .int ((S.1 10) 2)])) = wJ E M (pI S 10 1 v) := rfl
theorem uC_10_2 (E : gEE) (M : gSm) (S : gSc) (v : Int32) : (wJ E M S).set 21 (eC E 10, .inr (5, [.int ((S.1 10) 0), .int ((S.1 10) 1), .int v])) = wJ E M (pI S 10 2 v) := rfl
theorem uC_13_3 (E : gEE) (M : gSm) (S : gSc) (v : Int32) : (wJ E M S).set 24 (eC E 13, .inr (3, [.ref (eC E 14), .ref (eC E 15), .ref (eC E 16), .int v, .int ((S.1 13) 4), .int ((S.1 13) 5), .int ((S.1 13) 6)])) = wJ E M (pI S 13 3 v) := rfl
theorem uC_13_4 (E : gEE) (M : gSm) (S : gSc) (v : Int32) : (wJ E M S).set 24 (eC E 13, .inr (3, [.ref (eC E 14), .ref (eC E 15), .ref (eC E 16), .int ((S.1 13) 3), .int v, .int ((S.1 13) 5), .int ((S.1 13) 6)])) = wJ E M (pI S 13 4 v) := rfl
theorem uC_13_5 (E : gEE) (M : gSm) (S : gSc) (v : Int32) : (wJ E M S).set 24 (eC E 13, .inr (3, [.ref (eC E 14), .ref (eC E 15), .ref (eC E 16), .int ((S.1 13) 3), .int ((S.1 13) 4), .int v, .int ((S.1 13) 6)])) = wJ E M (pI S 13 5 v) := rfl
theorem uC_13_6 (E : gEE) (M : gSm) (S : gSc) (v : Int32) : (wJ E M S).set 24 (eC E 13, .inr (3, [.ref (eC E 14), .ref (eC E 15), .ref (eC E 16), .int ((S.1 13) 3), .int ((S.1 13) 4), .int ((S.1 13) 5), .int v])) = wJ E M (pI S 13 6 v) := rfl
theorem uC_17_4 (E : gEE) (M : gSm) (S : gSc) (v : Int32) : (wJ E M S).set 28 (eC E 17, .inr (7, [.ref (eC E 18), .ref (eC E 19), .ref (eC E 20), .ref (eC E 21), .int v])) = wJ E M (pI S 17 4 v) := rfl
theorem uC_23_0 (E : gEE) (M : gSm) (S : gSc) (v : Int32) : (wJ E M S).set 34 (eC E 23, .inr (4, [.int v, .int ((S.1 23) 1), .int ((S.1 23) 2)])) = wJ E M (pI S 23 0 v) := rfl
theorem uC_23_1 (E : gEE) (M : gSm) (S : gSc) (v : Int32) : (wJ E M S).set 34 (eC E 23, .inr (4, [.int ((S.1 23) 0), .int v, .int ((S.1 23) 2)])) = wJ E M (pI S 23 1 v) := rfl
theorem uC_23_2 (E : gEE) (M : gSm) (S : gSc) (v : Int32) : (wJ E M S).set 34 (eC E 23, .inr (4, [.int ((S.1 23) 0), .int ((S.1 23) 1), .int v])) = wJ E M (pI S 23 2 v) := rfl
theorem uC_24_0 (E : gEE) (M : gSm) (S : gSc) (v : Int32) : (wJ E M S).set 35 (eC E 24, .inr (4, [.int v, .int ((S.1 24) 1), .int ((S.1 24) 2)])) = wJ E M (pI S 24 0 v) := rfl
theorem uC_24_1 (E : gEE) (M : gSm) (S : gSc) (v : Int32) : (wJ E M S).set 35 (eC E 24, .inr (4, [.int ((S.1 24) 0), .int v, .int ((S.1 24) 2)])) = wJ E M (pI S 24 1 v) := rfl
theorem uC_24_2 (E : gEE) (M : gSm) (S : gSc) (v : Int32) : (wJ E M S).set 35 (eC E 24, .inr (4, [.int ((S.1 24) 0), .int ((S.1 24) 1), .int v])) = wJ E M (pI S 24 2 v) := rfl
theorem uC_25_0 (E : gEE) (M : gSm) (S : gSc) (v : Int32) : (wJ E M S).set 36 (eC E 25, .inr (4, [.int v, .int ((S.1 25) 1), .int ((S.1 25) 2)])) = wJ E M (pI S 25 0 v) := rfl
theorem uC_25_1 (E : gEE) (M : gSm) (S : gSc) (v : Int32) : (wJ E M S).set 36 (eC E 25, .inr (4, [.int ((S.1 25) 0), .int v, .int ((S.1 25) 2)])) = wJ E M (pI S 25 1 v) := rfl
theorem uC_25_2 (E : gEE) (M : gSm) (S : gSc) (v : Int32) : (wJ E M S).set 36 (eC E 25, .inr (4, [.int ((S.1 25) 0), .int ((S.1 25) 1), .int v])) = wJ E M (pI S 25 2 v) := rfl
theorem uC_26_0 (E : gEE) (M : gSm) (S : gSc) (v : Int32) : (wJ E M S).set 37 (eC E 26, .inr (4, [.int v, .int ((S.1 26) 1), .int ((S.1 26) 2)])) = wJ E M (pI S 26 0 v) := rfl
theorem uC_26_1 (E : gEE) (M : gSm) (S : gSc) (v : Int32) : (wJ E M S).set 37 (eC E 26, .inr (4, [.int ((S.1 26) 0), .int v, .int ((S.1 26) 2)])) = wJ E M (pI S 26 1 v) := rfl
theorem uC_26_2 (E : gEE) (M : gSm) (S : gSc) (v : Int32) : (wJ E M S).set 37 (eC E 26, .inr (4, [.int ((S.1 26) 0), .int ((S.1 26) 1), .int v])) = wJ E M (pI S 26 2 v) := rfl
theorem tM_I0 (E : gEE) (M : gSm) (S : gSc) (f : Nat → Int32) : (wJ E M S).set 0 (eM E 0, .inr (10, [.ref (eM E 1), .ref (eM E 2), .ref (eM E 3), .int (f 3), .int (f 4), .ref (eM E 4), .int (f 6), .ref (eM E 5), .int (f 8), .ref (eM E 6), .int (f 10), .long ((M.2 0) 11), .long ((M.2 0) 12), .long ((M.2 0) 13), .long ((M.2 0) 14), .long ((M.2 0) 15), .ref (eM E 7), .ref (eM E 8), .ref (eM E 9), .ref (eM E 10), .int (f 20), .int (f 21), .long ((M.2 0) 22)])) = wJ E (mI M 0 f) S := rfl
theorem tM_J0 (E : gEE) (M : gSm) (S : gSc) (f : Nat → Int64) : (wJ E M S).set 0 (eM E 0, .inr (10, [.ref (eM E 1), .ref (eM E 2), .ref (eM E 3), .int ((M.1 0) 3), .int ((M.1 0) 4), .ref (eM E 4), .int ((M.1 0) 6), .ref (eM E 5), .int ((M.1 0) 8), .ref (eM E 6), .int ((M.1 0) 10), .long (f 11), .long (f 12), .long (f 13), .long (f 14), .long (f 15), .ref (eM E 7), .ref (eM E 8), .ref (eM E 9), .ref (eM E 10), .int ((M.1 0) 20), .int ((M.1 0) 21), .long (f 22)])) = wJ E (mJ M 0 f) S := rfl
theorem tM_I1 (E : gEE) (M : gSm) (S : gSc) (f : Nat → Int32) : (wJ E M S).set 1 (eM E 1, .inl (eY E 0, 280, .inl f)) = wJ E (mI M 1 f) S := rfl
theorem tM_I2 (E : gEE) (M : gSm) (S : gSc) (f : Nat → Int32) : (wJ E M S).set 2 (eM E 2, .inl (eY E 0, 16, .inl f)) = wJ E (mI M 2 f) S := rfl
theorem tM_I3 (E : gEE) (M : gSm) (S : gSc) (f : Nat → Int32) : (wJ E M S).set 3 (eM E 3, .inl (eY E 0, 112, .inl f)) = wJ E (mI M 3 f) S := rfl
theorem tM_I4 (E : gEE) (M : gSm) (S : gSc) (f : Nat → Int32) : (wJ E M S).set 4 (eM E 4, .inl (eY E 0, 366, .inl f)) = wJ E (mI M 4 f) S := rfl
theorem tM_I5 (E : gEE) (M : gSm) (S : gSc) (f : Nat → Int32) : (wJ E M S).set 5 (eM E 5, .inl (eY E 0, 80, .inl f)) = wJ E (mI M 5 f) S := rfl
theorem tM_I6 (E : gEE) (M : gSm) (S : gSc) (f : Nat → Int32) : (wJ E M S).set 6 (eM E 6, .inl (eY E 0, 601, .inl f)) = wJ E (mI M 6 f) S := rfl
theorem tM_J7 (E : gEE) (M : gSm) (S : gSc) (f : Nat → Int64) : (wJ E M S).set 7 (eM E 7, .inl (eY E 1, 7, .inr (.inl f))) = wJ E (mJ M 7 f) S := rfl
theorem tM_J8 (E : gEE) (M : gSm) (S : gSc) (f : Nat → Int64) : (wJ E M S).set 8 (eM E 8, .inl (eY E 1, 24, .inr (.inl f))) = wJ E (mJ M 8 f) S := rfl
theorem tM_J9 (E : gEE) (M : gSm) (S : gSc) (f : Nat → Int64) : (wJ E M S).set 9 (eM E 9, .inl (eY E 1, 24, .inr (.inl f))) = wJ E (mJ M 9 f) S := rfl
theorem tM_I10 (E : gEE) (M : gSm) (S : gSc) (f : Nat → Int32) : (wJ E M S).set 10 (eM E 10, .inl (eY E 2, 24, .inl f)) = wJ E (mI M 10 f) S := rfl
theorem tC_I0 (E : gEE) (M : gSm) (S : gSc) (f : Nat → Int32) : (wJ E M S).set 11 (eC E 0, .inr (9, [.ref (eC E 1), .ref (eC E 3), .ref (eC E 4), .ref (eC E 7), .ref (eC E 13), .ref (eC E 17), .ref (eC E 22), .int (f 7), .ref (eC E 23), .ref (eC E 24), .ref (eC E 25), .ref (eC E 26)])) = wJ E M (sI S 0 f) := rfl
theorem tC_I1 (E : gEE) (M : gSm) (S : gSc) (f : Nat → Int32) : (wJ E M S).set 12 (eC E 1, .inr (8, [.ref (eC E 2), .int (f 1), .int (f 2), .int (f 3), .int (f 4), .int (f 5), .int (f 6), .int (f 7), .int (f 8), .int (f 9), .int (f 10), .int (f 11), .int (f 12), .int (f 13), .int (f 14), .int (f 15)])) = wJ E M (sI S 1 f) := rfl
theorem tC_I2 (E : gEE) (M : gSm) (S : gSc) (f : Nat → Int32) : (wJ E M S).set 13 (eC E 2, .inl (eY E 0, 366, .inl f)) = wJ E M (sI S 2 f) := rfl
theorem tC_R3 (E : gEE) (M : gSm) (S : gSc) (f : Nat → Option Nat) : (wJ E M S).set 14 (eC E 3, .inl (eY E 4, 40, .inr (.inr (.inr (.inr f))))) = wJ E M (sR S 3 f) := rfl
theorem tC_I4 (E : gEE) (M : gSm) (S : gSc) (f : Nat → Int32) : (wJ E M S).set 15 (eC E 4, .inr (0, [.ref (eC E 5), .ref (eC E 6), .int (f 2), .int (f 3)])) = wJ E M (sI S 4 f) := rfl
theorem tC_I5 (E : gEE) (M : gSm) (S : gSc) (f : Nat → Int32) : (wJ E M S).set 16 (eC E 5, .inl (eY E 0, 16, .inl f)) = wJ E M (sI S 5 f) := rfl
theorem tC_R6 (E : gEE) (M : gSm) (S : gSc) (f : Nat → Option Nat) : (wJ E M S).set 17 (eC E 6, .inl (eY E 4, 16, .inr (.inr (.inr (.inr f))))) = wJ E M (sR S 6 f) := rfl
theorem tC_I7 (E : gEE) (M : gSm) (S : gSc) (f : Nat → Int32) : (wJ E M S).set 18 (eC E 7, .inr (6, [.ref (eC E 8), .ref (eC E 9), .ref (eC E 10), .ref (eC E 11), .ref (eC E 12), .int (f 6), .int (f 7), .int (f 8), .int (f 9), .int (f 10), .int (f 11), .int (f 12), .int (f 13)])) = wJ E M (sI S 7 f) := rfl
theorem tC_I8 (E : gEE) (M : gSm) (S : gSc) (f : Nat → Int32) : (wJ E M S).set 19 (eC E 8, .inr (5, [.int (f 0), .int (f 1), .int (f 2)])) = wJ E M (sI S 8 f) := rfl
theorem tC_I9 (E : gEE) (M : gSm) (S : gSc) (f : Nat → Int32) : (wJ E M S).set 20 (eC E 9, .inr (5, [.int (f 0), .int (f 1), .int (f 2)])) = wJ E M (sI S 9 f) := rfl
theorem tC_I10 (E : gEE) (M : gSm) (S : gSc) (f : Nat → Int32) : (wJ E M S).set 21 (eC E 10, .inr (5, [.int (f 0), .int (f 1), .int (f 2)])) = wJ E M (sI S 10 f) := rfl
theorem tC_R11 (E : gEE) (M : gSm) (S : gSc) (f : Nat → Option Nat) : (wJ E M S).set 22 (eC E 11, .inl (eY E 3, 40, .inr (.inr (.inr (.inr f))))) = wJ E M (sR S 11 f) := rfl
theorem tC_I12 (E : gEE) (M : gSm) (S : gSc) (f : Nat → Int32) : (wJ E M S).set 23 (eC E 12, .inl (eY E 0, 40, .inl f)) = wJ E M (sI S 12 f) := rfl
theorem tC_I13 (E : gEE) (M : gSm) (S : gSc) (f : Nat → Int32) : (wJ E M S).set 24 (eC E 13, .inr (3, [.ref (eC E 14), .ref (eC E 15), .ref (eC E 16), .int (f 3), .int (f 4), .int (f 5), .int (f 6)])) = wJ E M (sI S 13 f) := rfl
theorem tC_I14 (E : gEE) (M : gSm) (S : gSc) (f : Nat → Int32) : (wJ E M S).set 25 (eC E 14, .inl (eY E 0, 24, .inl f)) = wJ E M (sI S 14 f) := rfl
theorem tC_I15 (E : gEE) (M : gSm) (S : gSc) (f : Nat → Int32) : (wJ E M S).set 26 (eC E 15, .inl (eY E 0, 24, .inl f)) = wJ E M (sI S 15 f) := rfl
theorem tC_I16 (E : gEE) (M : gSm) (S : gSc) (f : Nat → Int32) : (wJ E M S).set 27 (eC E 16, .inl (eY E 0, 24, .inl f)) = wJ E M (sI S 16 f) := rfl
theorem tC_I17 (E : gEE) (M : gSm) (S : gSc) (f : Nat → Int32) : (wJ E M S).set 28 (eC E 17, .inr (7, [.ref (eC E 18), .ref (eC E 19), .ref (eC E 20), .ref (eC E 21), .int (f 4)])) = wJ E M (sI S 17 f) := rfl
theorem tC_I18 (E : gEE) (M : gSm) (S : gSc) (f : Nat → Int32) : (wJ E M S).set 29 (eC E 18, .inl (eY E 0, 20, .inl f)) = wJ E M (sI S 18 f) := rfl
theorem tC_I19 (E : gEE) (M : gSm) (S : gSc) (f : Nat → Int32) : (wJ E M S).set 30 (eC E 19, .inl (eY E 0, 20, .inl f)) = wJ E M (sI S 19 f) := rfl
theorem tC_I20 (E : gEE) (M : gSm) (S : gSc) (f : Nat → Int32) : (wJ E M S).set 31 (eC E 20, .inl (eY E 0, 20, .inl f)) = wJ E M (sI S 20 f) := rfl
theorem tC_I21 (E : gEE) (M : gSm) (S : gSc) (f : Nat → Int32) : (wJ E M S).set 32 (eC E 21, .inl (eY E 0, 20, .inl f)) = wJ E M (sI S 21 f) := rfl
theorem tC_I22 (E : gEE) (M : gSm) (S : gSc) (f : Nat → Int32) : (wJ E M S).set 33 (eC E 22, .inl (eY E 0, 601, .inl f)) = wJ E M (sI S 22 f) := rfl
theorem tC_I23 (E : gEE) (M : gSm) (S : gSc) (f : Nat → Int32) : (wJ E M S).set 34 (eC E 23, .inr (4, [.int (f 0), .int (f 1), .int (f 2)])) = wJ E M (sI S 23 f) := rfl
theorem tC_I24 (E : gEE) (M : gSm) (S : gSc) (f : Nat → Int32) : (wJ E M S).set 35 (eC E 24, .inr (4, [.int (f 0), .int (f 1), .int (f 2)])) = wJ E M (sI S 24 f) := rfl
theorem tC_I25 (E : gEE) (M : gSm) (S : gSc) (f : Nat → Int32) : (wJ E M S).set 36 (eC E 25, .inr (4, [.int (f 0), .int (f 1), .int (f 2)])) = wJ E M (sI S 25 f) := rfl
theorem tC_I26 (E : gEE) (M : gSm) (S : gSc) (f : Nat → Int32) : (wJ E M S).set 37 (eC E 26, .inr (4, [.int (f 0), .int (f 1), .int (f 2)])) = wJ E M (sI S 26 f) := rfl
def gW (E : gEE) (M : gSm) (S : gSc) (H : Heap) : Prop := va_P (eD E) vwCl (wJ E M S) H ∧ va_D (eA E) (wJ E M S)
theorem gW.of {E : gEE} {M2 : gSm} {S2 : gSc} {H : Heap} {ws : va_W} (h : ws = wJ E M2 S2) (hP : va_P (eD E) vwCl ws H) (hD : va_D (eA E) ws) : gW E M2 S2 H := by subst h; exact ⟨hP, hD⟩
def xN : List Cond := [.fieldLinkNest "DialGarden" 106 "DialGarden$Sky" "corrections" "[I" "DialGarden",
  .fieldLinkNest "DialGarden" 103 "DialGarden$Sky" "known" "I" "DialGarden",
  .fieldLinkNest "DialGarden" 87 "DialGarden$Sky" "latitude" "I" "DialGarden",
  .fieldLinkNest "DialGarden" 140 "DialGarden$Sky" "correction" "I" "DialGarden",
  .fieldLinkNest "DialGarden" 134 "DialGarden$Sky" "slope" "I" "DialGarden",
  .fieldLinkNest "DialGarden" 137 "DialGarden$Sky" "turn" "I" "DialGarden",
  .fieldLinkNest "DialGarden$Row" 19 "DialGarden$Sky" "east" "I" "DialGarden",
  .fieldLinkNest "DialGarden$House" 28 "DialGarden$Sky" "east" "I" "DialGarden",
  .fieldLinkNest "DialGarden" 125 "DialGarden$Sky" "east" "I" "DialGarden",
  .fieldLinkNest "DialGarden$Row" 24 "DialGarden$Sky" "north" "I" "DialGarden",
  .fieldLinkNest "DialGarden$House" 33 "DialGarden$Sky" "north" "I" "DialGarden",
  .fieldLinkNest "DialGarden" 128 "DialGarden$Sky" "north" "I" "DialGarden",
  .fieldLinkNest "DialGarden$Row" 27 "DialGarden$Sky" "up" "I" "DialGarden",
  .fieldLinkNest "DialGarden$House" 36 "DialGarden$Sky" "up" "I" "DialGarden",
  .fieldLinkNest "DialGarden$Shade" 107 "DialGarden$Sky" "up" "I" "DialGarden",
  .fieldLinkNest "DialGarden" 131 "DialGarden$Sky" "up" "I" "DialGarden",
  .fieldLinkNest "DialGarden" 215 "DialGarden$Changes" "kept" "I" "DialGarden",
  .fieldLinkNest "DialGarden" 232 "DialGarden$Shade" "hider" "I" "DialGarden",
  .fieldLinkNest "DialGarden" 236 "DialGarden$Shade" "endX" "I" "DialGarden",
  .fieldLinkNest "DialGarden" 239 "DialGarden$Shade" "endY" "I" "DialGarden",
  .fieldLinkNest "DialGarden" 348 "DialGarden$Marks" "size" "I" "DialGarden",
  .fieldLinkNest "DialGarden" 270 "DialGarden$Marks" "hourBefore" "I" "DialGarden",
  .fieldLinkNest "DialGarden" 273 "DialGarden$Marks" "hourBehind" "I" "DialGarden",
  .fieldLinkNest "DialGarden" 276 "DialGarden$Marks" "shown" "I" "DialGarden",
  .fieldLinkNest "DialGarden" 362 "DialGarden$Sights" "days" "[I" "DialGarden",
  .fieldLinkNest "DialGarden" 365 "DialGarden$Sights" "minutes" "[I" "DialGarden",
  .fieldLinkNest "DialGarden" 294 "DialGarden$Sights" "size" "I" "DialGarden",
  .fieldLinkNest "DialGarden" 248 "DialGarden$Range" "size" "I" "DialGarden",
  .fieldLinkNest "DialGarden$Shade" 61 "DialGarden$Dial" "x" "I" "DialGarden",
  .fieldLinkNest "DialGarden$Shade" 64 "DialGarden$Dial" "y" "I" "DialGarden",
  .fieldLinkNest "DialGarden$Shade" 65 "DialGarden$Dial" "rod" "I" "DialGarden",
  .fieldLinkNest "DialGarden$Shade" 70 "DialGarden$Dial" "facing" "I" "DialGarden",
  .fieldLinkNest "DialGarden" 190 "DialGarden$Dial" "facing" "I" "DialGarden",
  .fieldLinkNest "DialGarden$Shade" 88 "DialGarden$Dial" "slant" "I" "DialGarden",
  .fieldLinkNest "DialGarden" 196 "DialGarden$Dial" "slant" "I" "DialGarden",
  .fieldLinkNest "DialGarden$Dial" 40 "DialGarden" "KINDS_OF" "[I" "DialGarden",
  .methodLinkNest "DialGarden$Sky" 26 ⟨"DialGarden", "sineOf", "(I)I"⟩ "DialGarden",
  .methodLinkNest "DialGarden$Sky" 33 ⟨"DialGarden", "cosineOf", "(I)I"⟩ "DialGarden",
  .methodLinkNest "DialGarden" 24 ⟨"DialGarden$Changes", "<init>", "()V"⟩ "DialGarden",
  .methodLinkNest "DialGarden" 31 ⟨"DialGarden$Shade", "<init>", "()V"⟩ "DialGarden",
  .methodLinkNest "DialGarden$Shade" 11 ⟨"DialGarden$Row", "<init>", "()V"⟩ "DialGarden",
  .methodLinkNest "DialGarden" 38 ⟨"DialGarden$Marks", "<init>", "()V"⟩ "DialGarden",
  .methodLinkNest "DialGarden" 45 ⟨"DialGarden$Sights", "<init>", "()V"⟩ "DialGarden",
  .methodLinkNest "DialGarden" 60 ⟨"DialGarden$Range", "<init>", "()V"⟩ "DialGarden",
  .methodLinkNest "DialGarden$Sky" 51 ⟨"DialGarden", "within", "(JJJ)Z"⟩ "DialGarden",
  .methodLinkNest "DialGarden$Sky" 65 ⟨"DialGarden", "dot", "(II)I"⟩ "DialGarden",
  .methodLinkNest "DialGarden$Dial" 3 ⟨"DialGarden$Thing", "<init>", "()V"⟩ "DialGarden",
  .methodLinkNest "DialGarden$House" 3 ⟨"DialGarden$Thing", "<init>", "()V"⟩ "DialGarden",
  .methodLinkNest "DialGarden$Dial" 36 ⟨"DialGarden", "isKind", "(I)Z"⟩ "DialGarden",
  .methodLinkNest "DialGarden$Shade" 81 ⟨"DialGarden", "sineOf", "(I)I"⟩ "DialGarden",
  .methodLinkNest "DialGarden$Shade" 85 ⟨"DialGarden", "cosineOf", "(I)I"⟩ "DialGarden",
  .methodLinkNest "DialGarden$Shade" 91 ⟨"DialGarden", "dot", "(II)I"⟩ "DialGarden",
  .methodLinkNest "DialGarden$Shade" 133 ⟨"DialGarden", "isNear", "(J)Z"⟩ "DialGarden",
  .methodLinkNest "DialGarden$Marks" 39 ⟨"DialGarden", "within", "(JJJ)Z"⟩ "DialGarden",
  .methodLinkNest "DialGarden$Sights" 28 ⟨"DialGarden", "within", "(JJJ)Z"⟩ "DialGarden",
  .declares ⟨"DialGarden$Thing", "sort", "()I"⟩,
  .declares ⟨"DialGarden$Thing", "property", "(I)I"⟩,
  .castable "DialGarden$Dial" "DialGarden$Thing",
  .castable "DialGarden$House" "DialGarden$Thing"]
def gKi : Nat → Value := fun j => .int (if j = 0 then 1 else if j = 1 then 3 else if j = 2 then 7 else if j = 3 then 9 else 23)
/-- what holds of the tables and of what nobody writes, at a method's start -/
def gE (E : gEE) (U : State) : Prop := va_K (eD E) vwCl (eT E) U ∧ (∀ q, U.heap.size ≤ q → eA E q) ∧ (∀ w ∈ xN, va_Nw w U) ∧ va_Nc "DialGarden$House" "DialGarden$Dial" U ∧ va_Nc "DialGarden$Dial" "DialGarden$House" U ∧ va_Z "DialGarden" "KINDS_OF" "[I" (.ref (eK E)) (eA E) U U.heap ∧ va_T .int (eK E) 5 gKi (eA E) U U.heap
