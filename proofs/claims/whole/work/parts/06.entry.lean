theorem lh_entry (m : MethodId) (args : Array Value) (vs : List Value) (n : Nat) (lv : List (Nat × Value)) (ha : args = vs.toArray) (hlv : lv_args 0 vs = lv) (hlen : (lg_sl vs).length ≤ n) : ∃ ls : Array Slot, entryFrame m args n = F0 m 0 ls [] ∧ lv_has ls n lv := by
  subst ha
  subst hlv
  exact ⟨_, lg_entry_eq m vs n, lv_entry vs hlen⟩
theorem lh_rf_or {ad : Nat → Nat → Nat} {k : Nat} {o : Option Nat} : lh_r ad k o = .null ∨ ∃ a, lh_r ad k o = .ref a := by
  cases o with
  | none => exact Or.inl rfl
  | some x => exact Or.inr ⟨_, rfl⟩
theorem lh_cat_i {v : Int32} : (Value.int v).category = 1 := rfl
theorem lh_cat_j {v : Int64} : (Value.long v).category = 2 := rfl
