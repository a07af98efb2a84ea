/-- the bit i of a number -/
def bt (x : Int32) (i : Nat) : Bool := x.toBitVec.getLsbD i
/-! THE ABSTRACT STATE, in five groups: loaders, files, classes, objects and rows, notes -/
abbrev GL : Type := Nat × (Nat → Nat) × (Nat → Int32) × (Nat → Nat → Option Nat) × (Nat → Nat → Option Nat) × (Nat → Nat → Bool) × (Nat → Nat → Nat)
def tl_n (L : GL) : Nat := L.1
def tl_par (L : GL) : Nat → Nat := L.2.1
def tl_bnd (L : GL) : Nat → Int32 := L.2.2.1
def tl_has (L : GL) : Nat → Nat → Option Nat := L.2.2.2.1
def tl_kn (L : GL) : Nat → Nat → Option Nat := L.2.2.2.2.1
def tl_dg (L : GL) : Nat → Nat → Bool := L.2.2.2.2.2.1
def tl_grp (L : GL) : Nat → Nat → Nat := L.2.2.2.2.2.2
abbrev GF : Type := Nat × (Nat → Nat) × (Nat → Nat) × (Nat → Nat) × (Nat → Int32) × (Nat → Bool) × (Nat → Nat → Option (Nat × Int32 × Int32))
def tf_n (F : GF) : Nat := F.1
def tf_nm (F : GF) : Nat → Nat := F.2.1
def tf_in (F : GF) : Nat → Nat := F.2.2.1
def tf_ab (F : GF) : Nat → Nat := F.2.2.2.1
def tf_ct (F : GF) : Nat → Int32 := F.2.2.2.2.1
def tf_fi (F : GF) : Nat → Bool := F.2.2.2.2.2.1
def tf_me (F : GF) : Nat → Nat → Option (Nat × Int32 × Int32) := F.2.2.2.2.2.2
abbrev GC : Type := Nat × (Nat → Nat) × (Nat → Nat) × (Nat → Option Nat) × (Nat → Nat) × (Nat → Int64)
def tc_n (C : GC) : Nat := C.1
def tc_ld (C : GC) : Nat → Nat := C.2.1
def tc_fl (C : GC) : Nat → Nat := C.2.2.1
def tc_ab (C : GC) : Nat → Option Nat := C.2.2.2.1
def tc_st (C : GC) : Nat → Nat := C.2.2.2.2.1
def tc_sv (C : GC) : Nat → Int64 := C.2.2.2.2.2
abbrev GO : Type := Nat × (Nat → Nat) × Nat × (Nat → Nat) × (Nat → Nat) × (Nat → Nat → Int32)
def to_n (O : GO) : Nat := O.1
def to_cl (O : GO) : Nat → Nat := O.2.1
def to_r (O : GO) : Nat := O.2.2.1
def to_rc (O : GO) : Nat → Nat := O.2.2.2.1
def to_rs (O : GO) : Nat → Nat := O.2.2.2.2.1
def to_ri (O : GO) : Nat → Nat → Int32 := O.2.2.2.2.2
abbrev GN : Type := Nat × (Nat → Int32) × Int32
def tn_ld (N : GN) : Nat := N.1
def tn_rg (N : GN) : Nat → Int32 := N.2.1
def tn_lf (N : GN) : Int32 := N.2.2
/-- none is 0, some x is x + 1 -/
def oc (o : Option Nat) : Nat := match o with
  | none => 0
  | some x => x + 1
/-- what of the class's objects never changes -/
def CX (S : lh_S) : Prop := gvR S 9 0 0 = some 0 ∧ gvR S 9 0 2 = some 0 ∧ gvR S 9 0 3 = some 0 ∧ gvR S 9 0 4 = some 0 ∧ gvR S 9 0 6 = some 0 ∧ gvR S 9 0 8 = some 0 ∧ gvR S 3 0 0 = some 0 ∧ gvR S 4 0 0 = some 0 ∧ gvR S 4 0 1 = some 0 ∧ gvR S 4 0 2 = some 0 ∧ gvR S 4 0 4 = some 0 ∧ gvR S 6 0 0 = some 0 ∧ gvL S 21 0 = 30 ∧ gvL S 22 0 = 60 ∧ gvL S 23 0 = 20 ∧ gvL S 24 0 = 40 ∧ gvL S 16 0 = 8 ∧ gvL S 17 0 = 40 ∧ gvL S 18 0 = 321 ∧ gvL S 19 0 = 30
def CL (S : lh_S) (L : GL) : Prop := 1 ≤ tl_n L ∧ tl_n L ≤ 8 ∧ (gvN S 2 = tl_n L ∧ gvN S 12 = tl_n L ∧ gvN S 13 = tl_n L ∧ gvN S 14 = tl_n L ∧ gvN S 15 = tl_n L) ∧ gvI S 3 0 1 = nI (tl_n L) ∧ (∀ l, l < tl_n L → gvR S 16 0 l = some l) ∧
  (∀ l, l < tl_n L → gvI S 2 l 0 = nI l ∧ gvR S 2 l 1 = (if l = 0 then none else some (tl_par L l)) ∧ gvI S 2 l 2 = tl_bnd L l ∧ gvR S 2 l 3 = some l ∧ gvR S 2 l 4 = some l ∧ gvR S 2 l 5 = some l ∧ gvR S 2 l 6 = some l ∧ gvL S 12 l = 40 ∧ gvL S 13 l = 40 ∧ gvL S 14 l = 40 ∧ gvL S 15 l = 40) ∧
  (∀ l n, l < tl_n L → n < 40 → gvR S 12 l n = tl_has L l n ∧ gvR S 13 l n = tl_kn L l n ∧ gvI S 14 l n = (if tl_dg L l n then 1 else 0) ∧ ∀ j, j < 32 → bt (gvI S 15 l n) j = decide (j < tl_n L ∧ tl_grp L j n = tl_grp L l n))
def CF (S : lh_S) (F : GF) : Prop := tf_n F ≤ 30 ∧ (gvN S 1 = tf_n F ∧ gvN S 11 = tf_n F) ∧ gvI S 9 0 1 = nI (tf_n F) ∧ (∀ f, f < tf_n F → gvR S 21 0 f = some f) ∧
  (∀ f, f < tf_n F → gvI S 1 f 0 = nI f ∧ gvI S 1 f 1 = nI (tf_nm F f) ∧ gvI S 1 f 2 = nI (tf_in F f) ∧ gvI S 1 f 3 = nI (tf_ab F f) ∧ gvI S 1 f 4 = tf_ct F f ∧ gvI S 1 f 5 = (if tf_fi F f then 1 else 0) ∧ gvR S 1 f 6 = some f ∧ gvL S 11 f = 4) ∧
  (∀ f m, f < tf_n F → m < 4 → (tf_me F f m = none → gvR S 11 f m = none) ∧ ∀ k a b, tf_me F f m = some (k, a, b) → ∃ x, gvR S 11 f m = some x ∧ x < gvN S 0 ∧ gvI S 0 x 0 = nI k ∧ gvJ S 0 x 1 = a.toInt64 ∧ gvJ S 0 x 2 = b.toInt64)
def CC (S : lh_S) (C : GC) : Prop := tc_n C ≤ 40 ∧ gvN S 5 = tc_n C ∧ gvI S 4 0 3 = nI (tc_n C) ∧ (∀ c, c < tc_n C → gvR S 17 0 c = some c) ∧
  (∀ c, c < tc_n C → gvI S 5 c 0 = nI c ∧ gvR S 5 c 1 = some (tc_ld C c) ∧ gvR S 5 c 2 = some (tc_fl C c) ∧ gvR S 5 c 3 = tc_ab C c ∧ gvI S 5 c 4 = nI (tc_st C c) ∧ gvJ S 5 c 5 = tc_sv C c)
def CO (S : lh_S) (O : GO) : Prop := to_n O ≤ 60 ∧ gvI S 9 0 5 = nI (to_n O) ∧ (∀ o, o < to_n O → gvR S 22 0 o = some (to_cl O o)) ∧ to_r O ≤ 20 ∧ (gvN S 7 = to_r O ∧ gvN S 20 = to_r O) ∧ gvI S 9 0 7 = nI (to_r O) ∧
  (∀ q, q < to_r O → gvR S 23 0 q = some q ∧ gvR S 7 q 0 = some (to_rc O q) ∧ gvR S 7 q 1 = some q ∧ gvL S 20 q = to_rs O q ∧ to_rs O q ≤ 8 ∧ ∀ i, i < to_rs O q → gvI S 20 q i = to_ri O q i)
def CN (S : lh_S) (N : GN) : Prop := gvI S 6 0 3 = nI (tn_ld N) ∧ gvI S 6 0 1 = nI (tn_ld N % 30) ∧ gvI S 6 0 2 = nI (min (tn_ld N) 30) ∧ (∀ j, j < 30 → gvI S 19 0 j = tn_rg N j) ∧ gvI S 9 0 9 = tn_lf N
/-- the steps: nothing stands open -/
def CS (S : lh_S) : Prop := gvI S 4 0 5 = 0 ∧ gvN S 8 ≤ 321 ∧ (∀ j, j < gvN S 8 → gvR S 18 0 j = some j) ∧ ∀ j, gvN S 8 ≤ j → j < 321 → gvR S 18 0 j = none
/-- the reference's own -/
def QX (S : lh_S) : Prop := (∀ k, k ∈ [2, 3, 4, 5, 6, 7, 8, 9, 11, 12, 13, 14, 15, 16, 18, 19, 20, 21, 22, 23, 26, 27, 28, 29, 30, 31, 35, 37, 39, 40, 41] → gvR S 10 0 k = some 0) ∧ (∀ k, k ∈ [32, 33, 34, 35, 36, 56] → gvL S k 0 = 30) ∧ (∀ k, k ∈ [37, 38, 39] → gvL S k 0 = 120) ∧ (∀ k, k ∈ [41, 42] → gvL S k 0 = 8) ∧ (∀ k, k ∈ [43, 44, 45, 46] → gvL S k 0 = 320) ∧ (∀ k, k ∈ [48, 49, 50, 51, 52, 53] → gvL S k 0 = 40) ∧ (∀ k, k ∈ [57, 58, 59, 60, 61] → gvL S k 0 = 700) ∧ gvL S 65 0 = 41 ∧ gvL S 67 0 = 60 ∧ gvL S 69 0 = 20 ∧ gvL S 70 0 = 20 ∧ gvL S 71 0 = 160
def QL (S : lh_S) (L : GL) : Prop := gvI S 10 0 10 = nI (tl_n L) ∧ (∀ l, l < tl_n L → 0 < l → gvI S 41 0 l = nI (tl_par L l)) ∧ (∀ l, l < 8 → gvI S 42 0 l = if l < tl_n L then tl_bnd L l else 0) ∧
  (∀ l n, l < 8 → n < 40 → gvI S 43 0 (40 * l + n) = nI (if l < tl_n L then oc (tl_has L l n) else 0) ∧ gvI S 44 0 (40 * l + n) = nI (if l < tl_n L then oc (tl_kn L l n) else 0) ∧ gvI S 45 0 (40 * l + n) = (if l < tl_n L ∧ tl_dg L l n = true then 1 else 0) ∧ (l < tl_n L → gvI S 46 0 (40 * l + n) = nI (tl_grp L l n)))
def QF (S : lh_S) (F : GF) : Prop := gvI S 10 0 1 = nI (tf_n F) ∧ (∀ f, f < tf_n F → gvI S 32 0 f = nI (tf_nm F f) ∧ gvI S 33 0 f = nI (tf_in F f) ∧ gvI S 34 0 f = nI (tf_ab F f) ∧ gvI S 35 0 f = tf_ct F f ∧ gvI S 36 0 f = (if tf_fi F f then 1 else 0)) ∧
  (∀ f m, f < 30 → m < 4 → (f < tf_n F → (tf_me F f m = none → gvI S 37 0 (4 * f + m) = 0) ∧ ∀ k a b, tf_me F f m = some (k, a, b) → gvI S 37 0 (4 * f + m) = nI (k + 1) ∧ gvI S 38 0 (4 * f + m) = a ∧ gvI S 39 0 (4 * f + m) = b) ∧ (tf_n F ≤ f → gvI S 37 0 (4 * f + m) = 0))
def QC (S : lh_S) (C : GC) (F : GF) : Prop := gvI S 10 0 17 = nI (tc_n C) ∧ (∀ c, c < tc_n C → gvI S 48 0 c = nI (tf_nm F (tc_fl C c)) ∧ gvI S 49 0 c = nI (tc_ld C c) ∧ gvI S 50 0 c = nI (tc_fl C c) ∧ gvI S 51 0 c = nI (oc (tc_ab C c)) - 1 ∧ gvI S 52 0 c = nI (tc_st C c) ∧ gvJ S 53 0 c = tc_sv C c) ∧ (∀ c, tc_n C ≤ c → c < 40 → gvI S 52 0 c = 0 ∧ gvJ S 53 0 c = 0)
def QO (S : lh_S) (O : GO) : Prop := gvI S 10 0 36 = nI (to_n O) ∧ (∀ o, o < to_n O → gvI S 67 0 o = nI (to_cl O o)) ∧ gvI S 10 0 38 = nI (to_r O) ∧ (∀ q, q < to_r O → gvI S 69 0 q = nI (to_rc O q) ∧ gvI S 70 0 q = nI (to_rs O q) ∧ ∀ i, i < to_rs O q → gvI S 71 0 (8 * q + i) = to_ri O q i + 1) ∧ (∀ q i, q < 20 → i < 8 → to_r O ≤ q → gvI S 71 0 (8 * q + i) = 0) ∧ (∀ q i, q < to_r O → to_rs O q ≤ i → i < 8 → gvI S 71 0 (8 * q + i) = 0)
def QN (S : lh_S) (N : GN) : Prop := gvI S 10 0 25 = nI (tn_ld N) ∧ (∀ j, j < 30 → gvI S 56 0 j = tn_rg N j) ∧ gvI S 10 0 24 = tn_lf N
/-- what holds of the abstract state itself -/
def IV (L : GL) (F : GF) (C : GC) (O : GO) : Prop := (∀ l, 0 < l → l < tl_n L → tl_par L l < l) ∧ (∀ l n f, l < tl_n L → n < 40 → tl_has L l n = some f → f < tf_n F ∧ tf_nm F f = n) ∧ (∀ l n c, l < tl_n L → n < 40 → tl_kn L l n = some c → c < tc_n C ∧ tf_nm F (tc_fl C c) = n) ∧ (∀ l n, l < tl_n L → n < 40 → tl_grp L l n < tl_n L) ∧
  (∀ f, f < tf_n F → tf_nm F f < 40 ∧ tf_in F f < 40 ∧ tf_ab F f < 40) ∧ (∀ f m k a b, f < tf_n F → m < 4 → tf_me F f m = some (k, a, b) → k ≤ 2) ∧ (∀ c, c < tc_n C → tc_ld C c < tl_n L ∧ tc_fl C c < tf_n F ∧ tc_st C c ≤ 2 ∧ ∀ a, tc_ab C c = some a → a < c) ∧ (∀ o, o < to_n O → to_cl O o < tc_n C) ∧ (∀ q, q < to_r O → to_rc O q < tc_n C)
