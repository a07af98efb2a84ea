theorem lh_entry (m : MethodId) (args : Array Value) (vs : List Value) (n : Nat) (lv : List (Nat × Value)) (ha : args = vs.toArray) (hlv : lv_args 0 vs = lv) (hlen : (lg_sl vs).length ≤ n) : ∃ ls : Array Slot, entryFrame m args n = F0 m 0 ls [] ∧ lv_has ls n lv := by
  subst ha
  subst hlv
  exact ⟨_, lg_entry_eq m vs n, lv_entry vs hlen⟩
theorem lh_rf_or {ad : Nat → Nat → Nat} {k : Nat} {o : Option Nat} : lh_r ad k o = .null ∨ ∃ a, lh_r ad k o = .ref a := by
  cases o with
  | none => exact Or.inl rfl
  | some x => exact Or.inr ⟨_, rfl⟩
theorem lh_cat_i {v : Int32} : (Value.int v).category = 1 := rfl
theorem lh_cat_j {v : Int64} : (Value.long v).category = 2 := rfl
theorem lh_one8 {S S0 S' : lh_S} {mc : Nat} (hn : ∀ b, gvN (pvN S0 8 0) b ≤ gvN S' b) (hm : ∀ b, gvN S b ≤ gvN S0 b) (hmc : gvN S' 8 + gvN S' 5 ≤ gvN S 8 + gvN S 5 + mc) : 0 + 1 ≤ mc := by
  have h1 := hn 8
  have h2 := hn 5
  rw [lh_pvN_n] at h1 h2
  rw [if_pos rfl] at h1
  rw [if_neg (by decide)] at h2
  have h3 := hm 8
  have h4 := hm 5
  omega
theorem lh_ons8 {S S0 S' : lh_S} {ms : Nat} (hn : ∀ b, gvN (pvN S0 8 0) b ≤ gvN S' b) (hm : ∀ b, gvN S b ≤ gvN S0 b) (hmc : 4 * gvN S' 8 + 6 * gvN S' 5 ≤ 4 * gvN S 8 + 6 * gvN S 5 + ms) : 0 + 4 ≤ ms := by
  have h1 := hn 8
  have h2 := hn 5
  rw [lh_pvN_n] at h1 h2
  rw [if_pos rfl] at h1
  rw [if_neg (by decide)] at h2
  have h3 := hm 8
  have h4 := hm 5
  omega
theorem lh_one5 {S S0 S' : lh_S} {mc : Nat} (hn : ∀ b, gvN (pvN S0 5 0) b ≤ gvN S' b) (hm : ∀ b, gvN S b ≤ gvN S0 b) (hmc : gvN S' 8 + gvN S' 5 ≤ gvN S 8 + gvN S 5 + mc) : 0 + 1 ≤ mc := by
  have h1 := hn 8
  have h2 := hn 5
  rw [lh_pvN_n] at h1 h2
  rw [if_pos rfl] at h2
  rw [if_neg (by decide)] at h1
  have h3 := hm 8
  have h4 := hm 5
  omega
theorem lh_ons5 {S S0 S' : lh_S} {ms : Nat} (hn : ∀ b, gvN (pvN S0 5 0) b ≤ gvN S' b) (hm : ∀ b, gvN S b ≤ gvN S0 b) (hmc : 4 * gvN S' 8 + 6 * gvN S' 5 ≤ 4 * gvN S 8 + 6 * gvN S 5 + ms) : 0 + 6 ≤ ms := by
  have h1 := hn 8
  have h2 := hn 5
  rw [lh_pvN_n] at h1 h2
  rw [if_pos rfl] at h2
  rw [if_neg (by decide)] at h1
  have h3 := hm 8
  have h4 := hm 5
  omega
