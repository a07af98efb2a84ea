/-! THE PURE PART: what the decompiled functions come to -/
theorem dc_nn_s {α : Type} {a : Nat} {f : Nat → Option α} : dc_nn (some a) f = f a := rfl
theorem dc_gd_n {α : Type} {c : Prop} [Decidable c] {x : Option α} (h : ¬ c) : dc_gd c x = x := if_neg h
theorem dc_if_p {α : Type} {c : Prop} [Decidable c] {x y : Option α} (h : c) : dc_if c x y = x := if_pos h
theorem dc_if_n {α : Type} {c : Prop} [Decidable c] {x y : Option α} (h : ¬ c) : dc_if c x y = y := if_neg h
theorem dc_bd_s {α β : Type} {a : α} {S : lh_S} {f : α → lh_S → Option β} : dc_bd (some (a, S)) f = f a S := rfl
theorem dc_bd_e {α β : Type} {x : Option (α × lh_S)} {a : α} {S : lh_S} {f : α → lh_S → Option β} (h : x = some (a, S)) : dc_bd x f = f a S := by rw [h]; rfl
theorem dc_nn_e {α : Type} {o : Option Nat} {a : Nat} {f : Nat → Option α} (h : o = some a) : dc_nn o f = f a := by rw [h]; rfl
theorem dc_let_q {α β : Type} {x : α} {f : α → Option β} : dc_let x f = f x := rfl
theorem gI_pI (S : lh_S) (a i k : Nat) (v : Int32) (b j q : Nat) : gvI (pvI S a i k v) b j q = if b = a ∧ j = i ∧ q = k then v else gvI S b j q := rfl
theorem gI_pJ (S : lh_S) (a i k : Nat) (v : Int64) (b j q : Nat) : gvI (pvJ S a i k v) b j q = gvI S b j q := rfl
theorem gI_pR (S : lh_S) (a i k : Nat) (v : Option Nat) (b j q : Nat) : gvI (pvR S a i k v) b j q = gvI S b j q := rfl
theorem gI_pN (S : lh_S) (a n : Nat) (b j q : Nat) : gvI (pvN S a n) b j q = if b = a ∧ j = gvN S a then 0 else gvI S b j q := rfl
theorem gJ_pI (S : lh_S) (a i k : Nat) (v : Int32) (b j q : Nat) : gvJ (pvI S a i k v) b j q = gvJ S b j q := rfl
theorem gJ_pJ (S : lh_S) (a i k : Nat) (v : Int64) (b j q : Nat) : gvJ (pvJ S a i k v) b j q = if b = a ∧ j = i ∧ q = k then v else gvJ S b j q := rfl
theorem gJ_pR (S : lh_S) (a i k : Nat) (v : Option Nat) (b j q : Nat) : gvJ (pvR S a i k v) b j q = gvJ S b j q := rfl
theorem gJ_pN (S : lh_S) (a n : Nat) (b j q : Nat) : gvJ (pvN S a n) b j q = if b = a ∧ j = gvN S a then 0 else gvJ S b j q := rfl
theorem gR_pI (S : lh_S) (a i k : Nat) (v : Int32) (b j q : Nat) : gvR (pvI S a i k v) b j q = gvR S b j q := rfl
theorem gR_pJ (S : lh_S) (a i k : Nat) (v : Int64) (b j q : Nat) : gvR (pvJ S a i k v) b j q = gvR S b j q := rfl
theorem gR_pR (S : lh_S) (a i k : Nat) (v : Option Nat) (b j q : Nat) : gvR (pvR S a i k v) b j q = if b = a ∧ j = i ∧ q = k then v else gvR S b j q := rfl
theorem gR_pN (S : lh_S) (a n : Nat) (b j q : Nat) : gvR (pvN S a n) b j q = if b = a ∧ j = gvN S a then none else gvR S b j q := rfl
theorem gL_pI (S : lh_S) (a i k : Nat) (v : Int32) (b j : Nat) : gvL (pvI S a i k v) b j = gvL S b j := rfl
theorem gL_pJ (S : lh_S) (a i k : Nat) (v : Int64) (b j : Nat) : gvL (pvJ S a i k v) b j = gvL S b j := rfl
theorem gL_pR (S : lh_S) (a i k : Nat) (v : Option Nat) (b j : Nat) : gvL (pvR S a i k v) b j = gvL S b j := rfl
theorem gL_pN (S : lh_S) (a n : Nat) (b j : Nat) : gvL (pvN S a n) b j = if b = a ∧ j = gvN S a then n else gvL S b j := rfl
theorem gN_pI (S : lh_S) (a i k : Nat) (v : Int32) (b : Nat) : gvN (pvI S a i k v) b = gvN S b := rfl
theorem gN_pJ (S : lh_S) (a i k : Nat) (v : Int64) (b : Nat) : gvN (pvJ S a i k v) b = gvN S b := rfl
theorem gN_pR (S : lh_S) (a i k : Nat) (v : Option Nat) (b : Nat) : gvN (pvR S a i k v) b = gvN S b := rfl
theorem gN_pN (S : lh_S) (a n : Nat) (b : Nat) : gvN (pvN S a n) b = if b = a then gvN S a + 1 else gvN S b := lh_pvN_n
/-- an index within -/
theorem ix_in {j ln : Nat} (h : j < ln) (hl : ln ≤ 100000) : ¬ (nI j < 0 ∨ ln ≤ (nI j).toNatClampNeg) := by
  rw [nI_clamp (by omega)]
  rintro (q | q)
  · exact nI_pos (by omega) q
  · omega
theorem ix_c {j : Nat} (h : j < 100000) : (nI j).toNatClampNeg = j := nI_clamp (by omega)
theorem nI_m1 {k : Nat} (hk : k ≤ 100000) : (nI k - 1).toInt = (k : Int) - 1 := by
  have h := pk_sub_toInt (a := k) (b := 1) (by omega) (by omega)
  exact h
theorem i64_t (x : Int32) : x.toInt64.toInt = x.toInt := by simp
theorem in_t (n : Nat) (S : lh_S) {x a b : Int64} (h1 : a ≤ x) (h2 : x ≤ b) : f_X10_in n S x a b = some (1, S) := by
  unfold f_X10_in
  rw [dc_if_n (fun h => ?_), dc_if_n (fun h => ?_)]
  · have := (lg_cmp_gt x b).mp h
    rw [Int64.lt_iff_toInt_lt] at this
    rw [Int64.le_iff_toInt_le] at h2
    omega
  · have := (lg_cmp_lt x a).mp h
    rw [Int64.lt_iff_toInt_lt] at this
    rw [Int64.le_iff_toInt_le] at h1
    omega
theorem in_f (n : Nat) (S : lh_S) {x a b : Int64} (h : x < a ∨ b < x) : f_X10_in n S x a b = some (0, S) := by
  unfold f_X10_in
  by_cases h1 : lg_cmp x a < 0
  · rw [dc_if_p h1]
  · rw [dc_if_n h1, dc_if_p]
    rcases h with h | h
    · exact absurd ((lg_cmp_lt x a).mpr h) h1
    · exact (lg_cmp_gt x b).mpr h
/-- a number against a count -/
theorem in_ct (n : Nat) (S : lh_S) {j k : Nat} (hj : j < k) (hk : k ≤ 100000) : f_X10_in n S (nI j).toInt64 0 ((nI k - 1).toInt64) = some (1, S) := by
  apply in_t
  · rw [Int64.le_iff_toInt_le, i64_t, nI_toInt (by omega)]
    show (0 : Int) ≤ _
    omega
  · rw [Int64.le_iff_toInt_le, i64_t, i64_t, nI_m1 hk, nI_toInt (by omega)]
    omega
theorem in_cf (n : Nat) (S : lh_S) {x : Int32} {k : Nat} (hx : x < 0 ∨ nI k ≤ x) (hk : k ≤ 100000) : f_X10_in n S x.toInt64 0 ((nI k - 1).toInt64) = some (0, S) := by
  apply in_f
  rcases hx with h | h
  · left
    rw [Int64.lt_iff_toInt_lt, i64_t]
    rw [Int32.lt_iff_toInt_lt] at h
    exact h
  · right
    rw [Int64.lt_iff_toInt_lt, i64_t, i64_t, nI_m1 hk]
    rw [Int32.le_iff_toInt_le, nI_toInt (by omega)] at h
    omega
/-- a number against a bound that is told -/
theorem in_kt (n : Nat) (S : lh_S) {j : Nat} {b : Int64} {k : Nat} (hb : b.toInt = k) (hj : j ≤ k) (hk : k ≤ 100000) : f_X10_in n S (nI j).toInt64 0 b = some (1, S) := by
  apply in_t
  · rw [Int64.le_iff_toInt_le, i64_t, nI_toInt (by omega)]
    show (0 : Int) ≤ _
    omega
  · rw [Int64.le_iff_toInt_le, i64_t, hb, nI_toInt (by omega)]
    omega
theorem in_kf (n : Nat) (S : lh_S) {x : Int32} {b : Int64} {k : Nat} (hb : b.toInt = k) (hx : x < 0 ∨ nI (k + 1) ≤ x) (hk : k ≤ 100000) : f_X10_in n S x.toInt64 0 b = some (0, S) := by
  apply in_f
  rcases hx with h | h
  · left
    rw [Int64.lt_iff_toInt_lt, i64_t]
    rw [Int32.lt_iff_toInt_lt] at h
    exact h
  · right
    rw [Int64.lt_iff_toInt_lt, i64_t, hb]
    rw [Int32.le_iff_toInt_le, nI_toInt (by omega)] at h
    omega
theorem gI_q {S : lh_S} {a i k b j q : Nat} {v : Int32} (h : q ≠ k) : gvI (pvI S a i k v) b j q = gvI S b j q := if_neg (fun z => h z.2.2)
theorem gI_j {S : lh_S} {a i k b j q : Nat} {v : Int32} (h : j ≠ i) : gvI (pvI S a i k v) b j q = gvI S b j q := if_neg (fun z => h z.2.1)
theorem gI_s {S : lh_S} {a i k : Nat} {v : Int32} : gvI (pvI S a i k v) a i k = v := if_pos ⟨rfl, rfl, rfl⟩
theorem gJ_q {S : lh_S} {a i k b j q : Nat} {v : Int64} (h : q ≠ k) : gvJ (pvJ S a i k v) b j q = gvJ S b j q := if_neg (fun z => h z.2.2)
theorem gJ_j {S : lh_S} {a i k b j q : Nat} {v : Int64} (h : j ≠ i) : gvJ (pvJ S a i k v) b j q = gvJ S b j q := if_neg (fun z => h z.2.1)
theorem gJ_s {S : lh_S} {a i k : Nat} {v : Int64} : gvJ (pvJ S a i k v) a i k = v := if_pos ⟨rfl, rfl, rfl⟩
theorem gR_q {S : lh_S} {a i k b j q : Nat} {v : Option Nat} (h : q ≠ k) : gvR (pvR S a i k v) b j q = gvR S b j q := if_neg (fun z => h z.2.2)
theorem gR_j {S : lh_S} {a i k b j q : Nat} {v : Option Nat} (h : j ≠ i) : gvR (pvR S a i k v) b j q = gvR S b j q := if_neg (fun z => h z.2.1)
theorem gR_s {S : lh_S} {a i k : Nat} {v : Option Nat} : gvR (pvR S a i k v) a i k = v := if_pos ⟨rfl, rfl, rfl⟩
