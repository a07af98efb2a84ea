/-! THE LOGICAL HEAP: objects and arrays by kind and number; kinds 0 to 10 are the classes of vwCl, from 11 on the arrays by their places -/
def lh_u3 {α : Type} (f : Nat → Nat → Nat → α) (a b c : Nat) (v : α) : Nat → Nat → Nat → α := fun x y z => if x = a ∧ y = b ∧ z = c then v else f x y z
def lh_u2 {α : Type} (f : Nat → Nat → α) (a b : Nat) (v : α) : Nat → Nat → α := fun x y => if x = a ∧ y = b then v else f x y
def lh_d3 {α : Type} (f : Nat → Nat → Nat → α) (a b : Nat) (v : α) : Nat → Nat → Nat → α := fun x y z => if x = a ∧ y = b then v else f x y z
abbrev lh_S : Type := (Nat → Nat) × (Nat → Nat → Nat) × (Nat → Nat → Nat → Int32) × (Nat → Nat → Nat → Int64) × (Nat → Nat → Nat → Option Nat)
def gvN (S : lh_S) : Nat → Nat := S.1
def gvL (S : lh_S) : Nat → Nat → Nat := S.2.1
def gvI (S : lh_S) : Nat → Nat → Nat → Int32 := S.2.2.1
def gvJ (S : lh_S) : Nat → Nat → Nat → Int64 := S.2.2.2.1
def gvR (S : lh_S) : Nat → Nat → Nat → Option Nat := S.2.2.2.2
def pvI (S : lh_S) (a b c : Nat) (v : Int32) : lh_S := (S.1, S.2.1, lh_u3 S.2.2.1 a b c v, S.2.2.2.1, S.2.2.2.2)
def pvJ (S : lh_S) (a b c : Nat) (v : Int64) : lh_S := (S.1, S.2.1, S.2.2.1, lh_u3 S.2.2.2.1 a b c v, S.2.2.2.2)
def pvR (S : lh_S) (a b c : Nat) (v : Option Nat) : lh_S := (S.1, S.2.1, S.2.2.1, S.2.2.2.1, lh_u3 S.2.2.2.2 a b c v)
/-- one more of a kind, of a length, with nothing in it -/
def pvN (S : lh_S) (a n : Nat) : lh_S := (va_up S.1 a (S.1 a + 1), lh_u2 S.2.1 a (S.1 a) n, lh_d3 S.2.2.1 a (S.1 a) 0, lh_d3 S.2.2.2.1 a (S.1 a) 0, lh_d3 S.2.2.2.2 a (S.1 a) none)
/-- what a kind's places hold: 0 ints, 1 longs, t + 2 references to kind t -/
def lh_tc (a k : Nat) : Nat := match a, k with
  | 0, 0 => 0 | 0, _ => 1
  | 1, 6 => 13 | 1, _ => 0
  | 2, 1 => 4 | 2, 3 => 14 | 2, 4 => 15 | 2, 5 => 16 | 2, 6 => 17 | 2, _ => 0
  | 3, 0 => 18 | 3, _ => 0
  | 4, 0 => 5 | 4, 1 => 8 | 4, 2 => 19 | 4, 4 => 20 | 4, _ => 0
  | 5, 1 => 4 | 5, 2 => 3 | 5, 3 => 7 | 5, 5 => 1 | 5, _ => 0
  | 6, 0 => 21 | 6, _ => 0
  | 7, 0 => 7 | 7, _ => 22
  | 8, 0 => 4 | 8, 2 => 3 | 8, _ => 0
  | 9, 0 => 23 | 9, 2 => 5 | 9, 3 => 6 | 9, 4 => 24 | 9, 6 => 25 | 9, 8 => 26 | 9, _ => 0
  | 10, 0 => 0 | 10, 1 => 0 | 10, 10 => 0 | 10, 17 => 0 | 10, 24 => 0 | 10, 25 => 0 | 10, 32 => 0 | 10, 33 => 0 | 10, 34 => 0 | 10, 36 => 0 | 10, 38 => 0
  | 10, k => k + 32
  | 11, _ => 2 | 12, _ => 3 | 13, _ => 7 | 16, _ => 4 | 17, _ => 7 | 18, _ => 10 | 21, _ => 3 | 22, _ => 7 | 23, _ => 9 | 24, _ => 7
  | 53, _ => 1
  | _, _ => 0
/-- which arrays a kind is of: a place in lh_tys -/
def lh_ar (a : Nat) : Option Nat := match a with
  | 0 => none | 1 => none | 2 => none | 3 => none | 4 => none | 5 => none | 6 => none | 7 => none | 8 => none | 9 => none | 10 => none
  | 11 => some 3 | 12 => some 4 | 13 => some 6 | 14 => some 1 | 16 => some 5 | 17 => some 6 | 18 => some 8 | 21 => some 4 | 22 => some 6 | 23 => some 7 | 24 => some 6
  | 36 => some 1 | 45 => some 1 | 53 => some 2
  | _ => some 0
def lh_nf (a : Nat) : Nat := match a with
  | 0 => 3 | 1 => 7 | 2 => 7 | 3 => 2 | 4 => 6 | 5 => 6 | 6 => 4 | 7 => 2 | 8 => 4 | 9 => 10 | 10 => 42 | _ => 0
def lh_tys (cT : Nat → ClassId) : List (ClassId × FieldType) := [(cT 0, .int), (cT 1, .boolean), (cT 2, .long), (cT 3, .object RX0), (cT 4, .object RX1), (cT 5, .object RX2), (cT 6, .object RX5), (cT 7, .object RX7), (cT 8, .object RX8)]
/-- a reference to an object of kind t, or null -/
def lh_r (ad : Nat → Nat → Nat) (t : Nat) (o : Option Nat) : Value := va_rf (o.map (ad t))
def lh_val (S : lh_S) (ad : Nat → Nat → Nat) (a i k : Nat) : Value := match lh_tc a k with
  | 0 => .int (gvI S a i k)
  | 1 => .long (gvJ S a i k)
  | t + 2 => lh_r ad t (gvR S a i k)
def lh_con (S : lh_S) (ad : Nat → Nat → Nat) (a i : Nat) : (Nat → Int32) ⊕ (Nat → Int64) ⊕ (Nat → UInt32) ⊕ (Nat → UInt64) ⊕ (Nat → Option Nat) := match lh_tc a 0 with
  | 0 => .inl (gvI S a i)
  | 1 => .inr (.inl (gvJ S a i))
  | t + 2 => .inr (.inr (.inr (.inr (fun j => (gvR S a i j).map (ad t)))))
def lh_cell (cT : Nat → ClassId) (S : lh_S) (ad : Nat → Nat → Nat) (a i : Nat) : va_E := match lh_ar a with
  | none => .inr (a, (List.range (lh_nf a)).map (lh_val S ad a i))
  | some t => .inl (cT t, gvL S a i, lh_con S ad a i)
/-- no reference leads to what is not there -/
def lh_ok (S : lh_S) : Prop := ∀ a i k t j : Nat, i < gvN S a → lh_tc a k = t + 2 → gvR S a i k = some j → j < gvN S t
def lh_W (D : va_G) (cT : Nat → ClassId) (S : lh_S) (ad : Nat → Nat → Nat) (A : Nat → Prop) (H : Heap) : Prop :=
  ∃ ws : va_W, va_P D vwCl ws H ∧ va_D A ws ∧ (∀ a i : Nat, i < gvN S a → ∃ q : Nat, ws[q]? = some (ad a i, lh_cell cT S ad a i)) ∧ (∀ a i b j : Nat, i < gvN S a → j < gvN S b → ad a i = ad b j → a = b ∧ i = j) ∧ lh_ok S
abbrev lh_K (D : va_G) (cT : Nat → ClassId) (U : State) : Prop := va_K D vwCl (lh_tys cT) U
/-- a place of the world is changed -/
theorem lh_W_set {D : va_G} {cT : Nat → ClassId} {S S' : lh_S} {ad : Nat → Nat → Nat} {A : Nat → Prop} {H1 : Heap} {ws : va_W} {q0 a i : Nat} {e : va_E}
    (hq : ws[q0]? = some (ad a i, lh_cell cT S ad a i)) (hi : i < gvN S a) (hD : va_D A ws) (h1 : ∀ b j : Nat, j < gvN S b → ∃ q : Nat, ws[q]? = some (ad b j, lh_cell cT S ad b j)) (h2 : ∀ b j b' j' : Nat, j < gvN S b → j' < gvN S b' → ad b j = ad b' j' → b = b' ∧ j = j')
    (hP1 : va_P D vwCl (ws.set q0 (ad a i, e)) H1) (hD1 : va_D A (ws.set q0 (ad a i, e))) (hN : gvN S' = gvN S) (he : lh_cell cT S' ad a i = e) (ho : ∀ b j : Nat, ¬ (b = a ∧ j = i) → lh_cell cT S' ad b j = lh_cell cT S ad b j) (hok : lh_ok S') : lh_W D cT S' ad A H1 := by
  have hl := (List.getElem?_eq_some_iff.mp hq).1
  refine ⟨_, hP1, hD1, fun b j hj => ?_, by rw [hN]; exact h2, hok⟩
  rw [hN] at hj
  by_cases hb : b = a ∧ j = i
  · obtain ⟨rfl, rfl⟩ := hb
    exact ⟨q0, by rw [List.getElem?_set_self hl, he]⟩
  · obtain ⟨q, hq2⟩ := h1 b j hj
    refine ⟨q, ?_⟩
    have hne : q0 ≠ q := fun z => by
      subst z
      rw [hq] at hq2
      exact hb (h2 b j a i hj hi (congrArg Prod.fst (Option.some.inj hq2)).symm)
    rw [List.getElem?_set_ne hne, hq2, ho b j hb]
theorem lh_u3_s {α : Type} {f : Nat → Nat → Nat → α} {a b c : Nat} {v : α} : lh_u3 f a b c v a b c = v := by simp [lh_u3]
theorem lh_u3_n {α : Type} {f : Nat → Nat → Nat → α} {a b c x y z : Nat} {v : α} (h : ¬ (x = a ∧ y = b ∧ z = c)) : lh_u3 f a b c v x y z = f x y z := by simp only [lh_u3, if_neg h]
/-- the cell of another object doesn't change -/
theorem lh_cell_c {cT : Nat → ClassId} {S S' : lh_S} {ad : Nat → Nat → Nat} {b j : Nat} (hL : gvL S' b j = gvL S b j) (hI : ∀ k, gvI S' b j k = gvI S b j k) (hJ : ∀ k, gvJ S' b j k = gvJ S b j k) (hR : ∀ k, gvR S' b j k = gvR S b j k) : lh_cell cT S' ad b j = lh_cell cT S ad b j := by
  have e1 : lh_val S' ad b j = lh_val S ad b j := by
    funext k
    unfold lh_val
    rw [hI, hJ, hR]
  have e2 : lh_con S' ad b j = lh_con S ad b j := by
    unfold lh_con
    rw [show gvI S' b j = gvI S b j from funext hI, show gvJ S' b j = gvJ S b j from funext hJ, show gvR S' b j = gvR S b j from funext hR]
  unfold lh_cell
  rw [e1, e2, hL]
theorem lh_list_set (f g : Nat → Value) (n k : Nat) (v : Value) (hg : ∀ j, j ≠ k → g j = f j) (hv : g k = v) : ((List.range n).map f).set k v = (List.range n).map g := by
  apply List.ext_getElem?
  intro j
  by_cases hj : k = j
  · subst hj
    by_cases hn : k < n
    · rw [List.getElem?_set_self (by simpa using hn)]
      simp [hn, hv]
    · rw [List.getElem?_eq_none (by simp; omega), List.getElem?_eq_none (by simp; omega)]
  · rw [List.getElem?_set_ne hj]
    by_cases hn : j < n
    · simp [hn, hg j (Ne.symm hj)]
    · rw [List.getElem?_eq_none (by simp; omega), List.getElem?_eq_none (by simp; omega)]
