theorem lh_entry (m : MethodId) (args : Array Value) (vs : List Value) (n : Nat) (lv : List (Nat × Value)) (ha : args = vs.toArray) (hlv : lv_args 0 vs = lv) (hlen : (lg_sl vs).length ≤ n) : ∃ ls : Array Slot, entryFrame m args n = F0 m 0 ls [] ∧ lv_has ls n lv := by
  subst ha
  subst hlv
  exact ⟨_, lg_entry_eq m vs n, lv_entry vs hlen⟩
theorem lh_rf_or {ad : Nat → Nat → Nat} {k : Nat} {o : Option Nat} : lh_r ad k o = .null ∨ ∃ a, lh_r ad k o = .ref a := by
  cases o with
  | none => exact Or.inl rfl
  | some x => exact Or.inr ⟨_, rfl⟩
theorem lh_cat_i {v : Int32} : (Value.int v).category = 1 := rfl
theorem lh_cat_j {v : Int64} : (Value.long v).category = 2 := rfl
theorem lh_one8 {S S0 S' : lh_S} {mc : Nat} (hn : ∀ b, gvN (pvN S0 8 0) b ≤ gvN S' b) (hm : ∀ b, gvN S b ≤ gvN S0 b) (hmc : gvN S' 8 + gvN S' 5 ≤ gvN S 8 + gvN S 5 + mc) : 0 + 1 ≤ mc := by
  have h1 := hn 8
  have h2 := hn 5
  rw [lh_pvN_n] at h1 h2
  rw [if_pos rfl] at h1
  rw [if_neg (by decide)] at h2
  have h3 := hm 8
  have h4 := hm 5
  omega
theorem lh_ons8 {S S0 S' : lh_S} {ms : Nat} (hn : ∀ b, gvN (pvN S0 8 0) b ≤ gvN S' b) (hm : ∀ b, gvN S b ≤ gvN S0 b) (hmc : 4 * gvN S' 8 + 6 * gvN S' 5 ≤ 4 * gvN S 8 + 6 * gvN S 5 + ms) : 0 + 4 ≤ ms := by
  have h1 := hn 8
  have h2 := hn 5
  rw [lh_pvN_n] at h1 h2
  rw [if_pos rfl] at h1
  rw [if_neg (by decide)] at h2
  have h3 := hm 8
  have h4 := hm 5
  omega
theorem lh_one5 {S S0 S' : lh_S} {mc : Nat} (hn : ∀ b, gvN (pvN S0 5 0) b ≤ gvN S' b) (hm : ∀ b, gvN S b ≤ gvN S0 b) (hmc : gvN S' 8 + gvN S' 5 ≤ gvN S 8 + gvN S 5 + mc) : 0 + 1 ≤ mc := by
  have h1 := hn 8
  have h2 := hn 5
  rw [lh_pvN_n] at h1 h2
  rw [if_pos rfl] at h2
  rw [if_neg (by decide)] at h1
  have h3 := hm 8
  have h4 := hm 5
  omega
theorem lh_ons5 {S S0 S' : lh_S} {ms : Nat} (hn : ∀ b, gvN (pvN S0 5 0) b ≤ gvN S' b) (hm : ∀ b, gvN S b ≤ gvN S0 b) (hmc : 4 * gvN S' 8 + 6 * gvN S' 5 ≤ 4 * gvN S 8 + 6 * gvN S 5 + ms) : 0 + 6 ≤ ms := by
  have h1 := hn 8
  have h2 := hn 5
  rw [lh_pvN_n] at h1 h2
  rw [if_pos rfl] at h2
  rw [if_neg (by decide)] at h1
  have h3 := hm 8
  have h4 := hm 5
  omega
/-- what of the reference stays when the class works; what of the class stays when the reference works -/
def lh_sm9 (S S' : lh_S) : Prop := ∀ b, (b = 10 ∨ 30 ≤ b) → gvN S' b = gvN S b ∧ gvL S' b = gvL S b ∧ gvI S' b = gvI S b ∧ gvJ S' b = gvJ S b ∧ gvR S' b = gvR S b
def lh_sm10 (S S' : lh_S) : Prop := ∀ b, ¬ (b = 10 ∨ 30 ≤ b) → gvN S' b = gvN S b ∧ gvL S' b = gvL S b ∧ gvI S' b = gvI S b ∧ gvJ S' b = gvJ S b ∧ gvR S' b = gvR S b
theorem lh_u3_f {α : Type} {f : Nat → Nat → Nat → α} {a b c x : Nat} {v : α} (h : x ≠ a) : lh_u3 f a b c v x = f x := by
  funext y z
  simp [lh_u3, h]
theorem lh_d3_f {α : Type} {f : Nat → Nat → Nat → α} {a b x : Nat} {v : α} (h : x ≠ a) : lh_d3 f a b v x = f x := by
  funext y z
  simp [lh_d3, h]
theorem lh_u2_f {α : Type} {f : Nat → Nat → α} {a b x : Nat} {v : α} (h : x ≠ a) : lh_u2 f a b v x = f x := by
  funext y
  simp [lh_u2, h]
theorem lh_cI {S : lh_S} {a i k : Nat} {v : Int32} {b : Nat} (h : b ≠ a) : gvN (pvI S a i k v) b = gvN S b ∧ gvL (pvI S a i k v) b = gvL S b ∧ gvI (pvI S a i k v) b = gvI S b ∧ gvJ (pvI S a i k v) b = gvJ S b ∧ gvR (pvI S a i k v) b = gvR S b := ⟨rfl, rfl, lh_u3_f h, rfl, rfl⟩
theorem lh_cJ {S : lh_S} {a i k : Nat} {v : Int64} {b : Nat} (h : b ≠ a) : gvN (pvJ S a i k v) b = gvN S b ∧ gvL (pvJ S a i k v) b = gvL S b ∧ gvI (pvJ S a i k v) b = gvI S b ∧ gvJ (pvJ S a i k v) b = gvJ S b ∧ gvR (pvJ S a i k v) b = gvR S b := ⟨rfl, rfl, rfl, lh_u3_f h, rfl⟩
theorem lh_cR {S : lh_S} {a i k : Nat} {v : Option Nat} {b : Nat} (h : b ≠ a) : gvN (pvR S a i k v) b = gvN S b ∧ gvL (pvR S a i k v) b = gvL S b ∧ gvI (pvR S a i k v) b = gvI S b ∧ gvJ (pvR S a i k v) b = gvJ S b ∧ gvR (pvR S a i k v) b = gvR S b := ⟨rfl, rfl, rfl, rfl, lh_u3_f h⟩
theorem lh_cN {S : lh_S} {a n : Nat} {b : Nat} (h : b ≠ a) : gvN (pvN S a n) b = gvN S b ∧ gvL (pvN S a n) b = gvL S b ∧ gvI (pvN S a n) b = gvI S b ∧ gvJ (pvN S a n) b = gvJ S b ∧ gvR (pvN S a n) b = gvR S b := ⟨by rw [lh_pvN_n, if_neg h], lh_u2_f h, lh_d3_f h, lh_d3_f h, lh_d3_f h⟩
theorem lh_sm9_rf {S : lh_S} : lh_sm9 S S := fun _ _ => ⟨rfl, rfl, rfl, rfl, rfl⟩
theorem lh_sm10_rf {S : lh_S} : lh_sm10 S S := fun _ _ => ⟨rfl, rfl, rfl, rfl, rfl⟩
theorem lh_sm9_trans {S S1 S2 : lh_S} (h1 : lh_sm9 S S1) (h2 : lh_sm9 S1 S2) : lh_sm9 S S2 := fun b hb => by
  obtain ⟨a1, a2, a3, a4, a5⟩ := h1 b hb
  obtain ⟨b1, b2, b3, b4, b5⟩ := h2 b hb
  exact ⟨b1.trans a1, b2.trans a2, b3.trans a3, b4.trans a4, b5.trans a5⟩
theorem lh_sm10_trans {S S1 S2 : lh_S} (h1 : lh_sm10 S S1) (h2 : lh_sm10 S1 S2) : lh_sm10 S S2 := fun b hb => by
  obtain ⟨a1, a2, a3, a4, a5⟩ := h1 b hb
  obtain ⟨b1, b2, b3, b4, b5⟩ := h2 b hb
  exact ⟨b1.trans a1, b2.trans a2, b3.trans a3, b4.trans a4, b5.trans a5⟩
theorem lh_sm9I {S : lh_S} {a i k : Nat} {v : Int32} (ha : ¬ (a = 10 ∨ 30 ≤ a)) : lh_sm9 S (pvI S a i k v) := fun b hb => lh_cI (fun e => ha (e ▸ hb))
theorem lh_sm9J {S : lh_S} {a i k : Nat} {v : Int64} (ha : ¬ (a = 10 ∨ 30 ≤ a)) : lh_sm9 S (pvJ S a i k v) := fun b hb => lh_cJ (fun e => ha (e ▸ hb))
theorem lh_sm9R {S : lh_S} {a i k : Nat} {v : Option Nat} (ha : ¬ (a = 10 ∨ 30 ≤ a)) : lh_sm9 S (pvR S a i k v) := fun b hb => lh_cR (fun e => ha (e ▸ hb))
theorem lh_sm9N {S : lh_S} {a n : Nat} (ha : ¬ (a = 10 ∨ 30 ≤ a)) : lh_sm9 S (pvN S a n) := fun b hb => lh_cN (fun e => ha (e ▸ hb))
theorem lh_sm10I {S : lh_S} {a i k : Nat} {v : Int32} (ha : a = 10 ∨ 30 ≤ a) : lh_sm10 S (pvI S a i k v) := fun b hb => lh_cI (fun e => hb (e ▸ ha))
theorem lh_sm10J {S : lh_S} {a i k : Nat} {v : Int64} (ha : a = 10 ∨ 30 ≤ a) : lh_sm10 S (pvJ S a i k v) := fun b hb => lh_cJ (fun e => hb (e ▸ ha))
theorem lh_sm10R {S : lh_S} {a i k : Nat} {v : Option Nat} (ha : a = 10 ∨ 30 ≤ a) : lh_sm10 S (pvR S a i k v) := fun b hb => lh_cR (fun e => hb (e ▸ ha))
theorem lh_sm10N {S : lh_S} {a n : Nat} (ha : a = 10 ∨ 30 ≤ a) : lh_sm10 S (pvN S a n) := fun b hb => lh_cN (fun e => hb (e ▸ ha))
