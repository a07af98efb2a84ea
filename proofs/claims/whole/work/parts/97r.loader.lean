theorem bt_one : ∀ k, k < 8 → ∀ j, j < 32 → bt ((1 : Int32) <<< (nI k &&& 31)) j = decide (j = k) := by decide +kernel
/-- CL without its first word -/
def CL0 (S : lh_S) (L : GL) : Prop := tl_n L ≤ 8 ∧ (gvN S 2 = tl_n L ∧ gvN S 12 = tl_n L ∧ gvN S 13 = tl_n L ∧ gvN S 14 = tl_n L ∧ gvN S 15 = tl_n L) ∧ gvI S 3 0 1 = nI (tl_n L) ∧ (∀ l, l < tl_n L → gvR S 16 0 l = some l) ∧
  (∀ l, l < tl_n L → gvI S 2 l 0 = nI l ∧ gvR S 2 l 1 = (if l = 0 then none else some (tl_par L l)) ∧ gvI S 2 l 2 = tl_bnd L l ∧ gvR S 2 l 3 = some l ∧ gvR S 2 l 4 = some l ∧ gvR S 2 l 5 = some l ∧ gvR S 2 l 6 = some l ∧ gvL S 12 l = 40 ∧ gvL S 13 l = 40 ∧ gvL S 14 l = 40 ∧ gvL S 15 l = 40) ∧
  (∀ l n, l < tl_n L → n < 40 → gvR S 12 l n = tl_has L l n ∧ gvR S 13 l n = tl_kn L l n ∧ gvI S 14 l n = (if tl_dg L l n then 1 else 0) ∧ ∀ j, j < 32 → bt (gvI S 15 l n) j = decide (j < tl_n L ∧ tl_grp L j n = tl_grp L l n))
def newL (L : GL) (l : Nat) : GL := (tl_n L + 1, va_up (tl_par L) (tl_n L) l, va_up (tl_bnd L) (tl_n L) 0, va_up (tl_has L) (tl_n L) (fun _ => none), va_up (tl_kn L) (tl_n L) (fun _ => none), va_up (tl_dg L) (tl_n L) (fun _ => false), va_up (tl_grp L) (tl_n L) (fun _ => tl_n L))
def sInit (S : lh_S) (k : Nat) (p : Option Nat) : lh_S := pvR (pvI (pvR (pvN (pvR (pvN (pvR (pvN (pvR (pvN (pvN S 2 0) 12 40) 2 k 3 (some k)) 13 40) 2 k 4 (some k)) 14 40) 2 k 5 (some k)) 15 40) 2 k 6 (some k)) 2 k 0 (nI k)) 2 k 1 p
def sAdd (S : lh_S) (k : Nat) (p : Option Nat) : lh_S := pvR (pvI (fillI (sInit S k p) 15 k 0 40 ((1 : Int32) <<< (nI k &&& 31))) 3 0 1 (nI k + 1)) 16 0 k (some k)
theorem ev_X2_loop {S : lh_S} {k : Nat} (n : Nat) (p2 : Option Nat) (h1 : gvR S 2 k 6 = some k) (h2 : gvL S 15 k = 40) : ∀ (d g m : Nat), 40 - m = d → m ≤ 40 → d + 1 ≤ g → f_X2_init_L50 n k (nI k) p2 g (fillI S 15 k 0 m ((1 : Int32) <<< (nI k &&& 31))) (nI m) = some ((), fillI S 15 k 0 40 ((1 : Int32) <<< (nI k &&& 31))) := by
  intro d
  induction d with
  | zero =>
    intro g m hd hm hg
    obtain ⟨g, rfl⟩ : ∃ q, g = q + 1 := ⟨g - 1, by omega⟩
    have : m = 40 := by omega
    subst this
    rw [f_X2_init_L50, dc_if_p (by decide)]
  | succ d ih =>
    intro g m hd hm hg
    obtain ⟨g, rfl⟩ : ∃ q, g = q + 1 := ⟨g - 1, by omega⟩
    rw [f_X2_init_L50, dc_if_n (show ¬ (40 : Int32) ≤ nI m from nI_ge (b := 40) (by omega) (by omega)), dc_nn_e (show gvR (fillI S 15 k 0 m ((1 : Int32) <<< (nI k &&& 31))) 2 k 6 = some k from h1), dc_gd_n (by rw [show gvL (fillI S 15 k 0 m ((1 : Int32) <<< (nI k &&& 31))) 15 k = 40 from h2]; exact ix_in (by omega) (by omega)), ix_c (by omega), dc_let_q]
    have e := fill_1 S 15 k 0 m ((1 : Int32) <<< (nI k &&& 31))
    rw [Nat.zero_add] at e
    rw [e, nI_1]
    exact ih g (m + 1) (by omega) (by omega) (by omega)
theorem ev_X3_add {S : lh_S} {k : Nat} (n : Nat) (hn : 100 ≤ n) (p : Option Nat) (h2 : gvN S 2 = k) (h12 : gvN S 12 = k) (h13 : gvN S 13 = k) (h14 : gvN S 14 = k) (h15 : gvN S 15 = k) (h31 : gvI S 3 0 1 = nI k) (hk : k < 8) (h30 : gvR S 3 0 0 = some 0) (h16 : gvL S 16 0 = 8) : f_X3_add n S 0 p = some (some k, sAdd S k p) := by
  have ei : f_X2_init n (pvN S 2 0) k (nI k) p = some ((), fillI (sInit S k p) 15 k 0 40 ((1 : Int32) <<< (nI k &&& 31))) := by
    have el := ev_X2_loop (S := sInit S k p) (k := k) n p (by
      show gvR (pvR (pvI (pvR _ 2 k 6 (some k)) 2 k 0 (nI k)) 2 k 1 p) 2 k 6 = some k
      rw [gR_q (by decide)]
      show gvR (pvR _ 2 k 6 (some k)) 2 k 6 = some k
      exact gR_s) (by
      show gvL (pvN (pvR (pvN (pvR (pvN (pvR (pvN (pvN S 2 0) 12 40) 2 k 3 (some k)) 13 40) 2 k 4 (some k)) 14 40) 2 k 5 (some k)) 15 40) 15 k = 40
      rw [gL_pN, if_pos]
      exact ⟨rfl, h15.symm⟩) 40 n 0 (by omega) (by omega) (by omega)
    rw [fill_0] at el
    unfold f_X2_init
    rw [dc_let_q, show gvN (pvN S 2 0) 12 = k from h12, dc_let_q, dc_let_q, show gvN (pvR (pvN (pvN S 2 0) 12 40) 2 k 3 (some k)) 13 = k from h13, dc_let_q, dc_let_q, show gvN (pvR (pvN (pvR (pvN (pvN S 2 0) 12 40) 2 k 3 (some k)) 13 40) 2 k 4 (some k)) 14 = k from h14, dc_let_q, dc_let_q, show gvN (pvR (pvN (pvR (pvN (pvR (pvN (pvN S 2 0) 12 40) 2 k 3 (some k)) 13 40) 2 k 4 (some k)) 14 40) 2 k 5 (some k)) 15 = k from h15, dc_let_q, dc_let_q, dc_let_q]
    exact el
  unfold f_X3_add
  rw [dc_let_q, h2, show gvI (pvN S 2 0) 3 0 1 = nI k from h31, ei, dc_bd_s, show gvI (fillI (sInit S k p) 15 k 0 40 ((1 : Int32) <<< (nI k &&& 31))) 3 0 1 = nI k from h31, dc_if_n (show ¬ (8 : Int32) ≤ nI k from nI_ge (b := 8) hk (by omega)), dc_let_q, dc_nn_e (show gvR (fillI (sInit S k p) 15 k 0 40 ((1 : Int32) <<< (nI k &&& 31))) 3 0 0 = some 0 from h30), dc_gd_n (by rw [show gvL (pvI (fillI (sInit S k p) 15 k 0 40 ((1 : Int32) <<< (nI k &&& 31))) 3 0 1 (nI k + 1)) 16 0 = 8 from h16]; exact ix_in hk (by omega)), ix_c (by omega), dc_let_q]
  rfl
theorem CL_add {S : lh_S} {L : GL} {l : Nat} (hL : CL0 S L) (hlt : tl_n L < 8) (hg : ∀ l n, l < tl_n L → n < 40 → tl_grp L l n < tl_n L) : CL (sAdd S (tl_n L) (if tl_n L = 0 then none else some l)) (newL L l) := by
  obtain ⟨l1, ⟨l2, l12, l13, l14, l15⟩, l3, l4, l5, l6⟩ := hL
  have en : tl_n (newL L l) = tl_n L + 1 := rfl
  have p1 : ∀ j, tl_par (newL L l) j = va_up (tl_par L) (tl_n L) l j := fun j => rfl
  have p2 : ∀ j, tl_bnd (newL L l) j = va_up (tl_bnd L) (tl_n L) 0 j := fun j => rfl
  have p3 : ∀ j, tl_has (newL L l) j = va_up (tl_has L) (tl_n L) (fun _ => none) j := fun j => rfl
  have p4 : ∀ j, tl_kn (newL L l) j = va_up (tl_kn L) (tl_n L) (fun _ => none) j := fun j => rfl
  have p5 : ∀ j, tl_dg (newL L l) j = va_up (tl_dg L) (tl_n L) (fun _ => false) j := fun j => rfl
  have p6 : ∀ j, tl_grp (newL L l) j = va_up (tl_grp L) (tl_n L) (fun _ => tl_n L) j := fun j => rfl
  rw [CL, en]
  generalize hk : tl_n L = k at *
  generalize hp : (if k = 0 then (none : Option Nat) else some l) = p
  have s12 : ∀ T : lh_S, gvN T 12 = k → gvL (pvN T 12 40) 12 k = 40 := fun T h => by rw [gL_pN, h, if_pos ⟨rfl, rfl⟩]
  have r : ∀ a n, (a = 12 ∨ a = 13) → gvR (sAdd S k p) a k n = none := by
    intro a n ha
    rcases ha with rfl | rfl
    · show gvR (pvN (pvN S 2 0) 12 40) 12 k n = none
      rw [gR_pN, if_pos]
      exact ⟨rfl, l12.symm⟩
    · show gvR (pvN (pvR (pvN (pvN S 2 0) 12 40) 2 k 3 (some k)) 13 40) 13 k n = none
      rw [gR_pN, if_pos]
      exact ⟨rfl, l13.symm⟩
  have ro : ∀ a j n, (a = 12 ∨ a = 13) → j ≠ k → gvR (sAdd S k p) a j n = gvR S a j n := by
    intro a j n ha hj
    rcases ha with rfl | rfl
    · show gvR (pvN (pvN S 2 0) 12 40) 12 j n = _
      rw [gR_pN, if_neg]
      · rfl
      · rintro ⟨-, q⟩
        exact hj (q.trans l12)
    · show gvR (pvN (pvR (pvN (pvN S 2 0) 12 40) 2 k 3 (some k)) 13 40) 13 j n = _
      rw [gR_pN, if_neg]
      · rfl
      · rintro ⟨-, q⟩
        exact hj (q.trans l13)
  have d14 : ∀ j n, gvI (sAdd S k p) 14 j n = if j = k then 0 else gvI S 14 j n := by
    intro j n
    show gvI (pvN (pvR (pvN (pvR (pvN (pvN S 2 0) 12 40) 2 k 3 (some k)) 13 40) 2 k 4 (some k)) 14 40) 14 j n = _
    rw [gI_pN, show gvN (pvR (pvN (pvR (pvN (pvN S 2 0) 12 40) 2 k 3 (some k)) 13 40) 2 k 4 (some k)) 14 = k from l14]
    by_cases hj : j = k
    · rw [if_pos ⟨rfl, hj⟩, if_pos hj]
    · rw [if_neg (fun q => hj q.2), if_neg hj]
      rfl
  have d15 : ∀ j n, n < 40 → gvI (sAdd S k p) 15 j n = if j = k then (1 : Int32) <<< (nI k &&& 31) else gvI S 15 j n := by
    intro j n hn
    show gvI (fillI (sInit S k p) 15 k 0 40 ((1 : Int32) <<< (nI k &&& 31))) 15 j n = _
    rw [gI_fill]
    by_cases hj : j = k
    · rw [if_pos ⟨rfl, hj, by omega, by omega⟩, if_pos hj]
    · rw [if_neg (fun q => hj q.2.1), if_neg hj]
      show gvI (pvN (pvR (pvN (pvR (pvN (pvR (pvN (pvN S 2 0) 12 40) 2 k 3 (some k)) 13 40) 2 k 4 (some k)) 14 40) 2 k 5 (some k)) 15 40) 15 j n = _
      rw [gI_pN, if_neg]
      · rfl
      · rintro ⟨-, q⟩
        exact hj (q.trans l15)
  have gl : ∀ a j, (a = 12 ∨ a = 13 ∨ a = 14 ∨ a = 15) → gvL (sAdd S k p) a j = if j = k then 40 else gvL S a j := by
    intro a j ha
    have key : ∀ (T : lh_S) (a : Nat), gvN T a = k → gvL T a j = gvL S a j → gvL (pvN T a 40) a j = if j = k then 40 else gvL S a j := by
      intro T a h h2
      rw [gL_pN, h]
      by_cases hj : j = k
      · rw [if_pos ⟨rfl, hj⟩, if_pos hj]
      · rw [if_neg (fun q => hj q.2), if_neg hj, h2]
    rcases ha with rfl | rfl | rfl | rfl
    · exact key (pvN S 2 0) 12 l12 rfl
    · exact key (pvR (pvN (pvN S 2 0) 12 40) 2 k 3 (some k)) 13 l13 rfl
    · exact key (pvR (pvN (pvR (pvN (pvN S 2 0) 12 40) 2 k 3 (some k)) 13 40) 2 k 4 (some k)) 14 l14 rfl
    · exact key (pvR (pvN (pvR (pvN (pvR (pvN (pvN S 2 0) 12 40) 2 k 3 (some k)) 13 40) 2 k 4 (some k)) 14 40) 2 k 5 (some k)) 15 l15 rfl
  have nn : ∀ (T : lh_S) (a m : Nat), gvN T a = k → gvN (pvN T a m) a = k + 1 := fun T a m h => by rw [gN_pN, if_pos rfl, h]
  have i2 : ∀ j q, gvI (sAdd S k p) 2 j q = if j = k then (if q = 0 then nI k else 0) else gvI S 2 j q := by
    intro j q
    show gvI (pvI (pvN S 2 0) 2 k 0 (nI k)) 2 j q = _
    rw [gI_pI, gI_pN, l2]
    by_cases hj : j = k
    · by_cases hq : q = 0
      · rw [if_pos ⟨rfl, hj, hq⟩, if_pos hj, if_pos hq]
      · rw [if_neg (fun z => hq z.2.2), if_pos ⟨rfl, hj⟩, if_pos hj, if_neg hq]
    · rw [if_neg (fun z => hj z.2.1), if_neg (fun z => hj z.2), if_neg hj]
  have r2 : ∀ j q, gvR (sAdd S k p) 2 j q = if j = k then (if q = 1 then p else if q = 6 then some k else if q = 5 then some k else if q = 4 then some k else if q = 3 then some k else none) else gvR S 2 j q := by
    intro j q
    show gvR (pvR (pvR (pvN (pvR (pvN (pvR (pvN (pvR (pvN (pvN S 2 0) 12 40) 2 k 3 (some k)) 13 40) 2 k 4 (some k)) 14 40) 2 k 5 (some k)) 15 40) 2 k 6 (some k)) 2 k 1 p) 2 j q = _
    have z : gvR (pvN S 2 0) 2 j q = if j = k then none else gvR S 2 j q := by
      rw [gR_pN, l2]
      by_cases hj : j = k
      · rw [if_pos ⟨rfl, hj⟩, if_pos hj]
      · rw [if_neg (fun z => hj z.2), if_neg hj]
    by_cases hj : j = k
    · subst hj
      simp only [gR_pR, gR_pN]
      simp [l2]
    · simp only [gR_pR, gR_pN]
      simp [hj]
      intro q
      exact absurd (q.trans l2) hj
  refine ⟨by omega, by omega, ⟨?_, ?_, ?_, ?_, ?_⟩, ?_, fun j hj => ?_, fun j hj => ?_, fun j n hj hn => ?_⟩
  · exact nn S 2 0 l2
  · exact nn (pvN S 2 0) 12 40 l12
  · exact nn (pvR (pvN (pvN S 2 0) 12 40) 2 k 3 (some k)) 13 40 l13
  · exact nn (pvR (pvN (pvR (pvN (pvN S 2 0) 12 40) 2 k 3 (some k)) 13 40) 2 k 4 (some k)) 14 40 l14
  · exact nn (pvR (pvN (pvR (pvN (pvR (pvN (pvN S 2 0) 12 40) 2 k 3 (some k)) 13 40) 2 k 4 (some k)) 14 40) 2 k 5 (some k)) 15 40 l15
  · show nI k + 1 = nI (k + 1)
    exact nI_1 k
  · show gvR (pvR _ 16 0 k (some k)) 16 0 j = some j
    by_cases hjk : j = k
    · subst hjk
      exact gR_s
    · rw [gR_q hjk]
      exact l4 j (by omega)
  · rw [p1, p2, i2, i2, r2, r2, r2, r2, r2, gl 12 j (by omega), gl 13 j (by omega), gl 14 j (by omega), gl 15 j (by omega)]
    by_cases hjk : j = k
    · subst hjk
      rw [va_s, va_s, ← hp]
      simp
    · rw [va_n hjk, va_n hjk]
      simp only [if_neg hjk]
      exact l5 j (by omega)
  · rw [p3, p4, p5, p6]
    by_cases hjk : j = k
    · subst hjk
      rw [va_s, va_s, va_s, va_s, r 12 n (by omega), r 13 n (by omega), d14, d15 j n hn, if_pos rfl, if_pos rfl]
      refine ⟨rfl, rfl, rfl, fun i hi => ?_⟩
      rw [bt_one j (by omega) i hi, p6]
      by_cases hij : i = j
      · subst hij
        rw [va_s]
        simp
      · rw [va_n hij, decide_eq_false hij, decide_eq_false]
        rintro ⟨q1, q2⟩
        have := hg i n (by omega) hn
        omega
    · obtain ⟨a1, a2, a3, a4⟩ := l6 j n (by omega) hn
      rw [va_n hjk, va_n hjk, va_n hjk, va_n hjk, ro 12 j n (by omega) hjk, ro 13 j n (by omega) hjk, d14, d15 j n hn, if_neg hjk, if_neg hjk]
      refine ⟨a1, a2, a3, fun i hi => ?_⟩
      rw [a4 i hi, p6]
      by_cases hik : i = k
      · subst hik
        rw [va_s, decide_eq_false, decide_eq_false]
        · rintro ⟨q1, q2⟩
          have q2 : i = tl_grp L j n := q2
          have := hg j n (by omega) hn
          omega
        · omega
      · rw [va_n hik]
        by_cases hh : i < k ∧ tl_grp L i n = tl_grp L j n
        · rw [decide_eq_true hh, decide_eq_true]
          exact ⟨by omega, hh.2⟩
        · rw [decide_eq_false hh, decide_eq_false]
          rintro ⟨q1, q2⟩
          exact hh ⟨by omega, q2⟩
def qAdd (T : lh_S) (k l : Nat) : lh_S := fillI (pvI (pvI T 10 0 10 (nI k + 1)) 41 0 k (nI l)) 46 0 (40 * k) 40 (nI k)
theorem ev_L59 {S : lh_S} {k : Nat} (n : Nat) (p : Int32) (hk : k < 8) (h1 : gvR S 10 0 16 = some 0) (h2 : gvL S 46 0 = 320) : ∀ (d g m : Nat), 40 - m = d → m ≤ 40 → d + 1 ≤ g → f_X10_loader_L59 n 0 p g (fillI S 46 0 (40 * k) m (nI k)) (nI k) (nI m) = some (nI k, fillI S 46 0 (40 * k) 40 (nI k)) := by
  intro d
  induction d with
  | zero =>
    intro g m hd hm hg
    obtain ⟨g, rfl⟩ : ∃ q, g = q + 1 := ⟨g - 1, by omega⟩
    have : m = 40 := by omega
    subst this
    rw [f_X10_loader_L59, dc_if_p (by decide)]
  | succ d ih =>
    intro g m hd hm hg
    obtain ⟨g, rfl⟩ : ∃ q, g = q + 1 := ⟨g - 1, by omega⟩
    rw [f_X10_loader_L59, dc_if_n (show ¬ (40 : Int32) ≤ nI m from nI_ge (b := 40) (by omega) (by omega)), dc_nn_e (show gvR (fillI S 46 0 (40 * k) m (nI k)) 10 0 16 = some 0 from h1), at40, dc_gd_n (by rw [show gvL (fillI S 46 0 (40 * k) m (nI k)) 46 0 = 320 from h2]; exact ix_in (by omega) (by omega)), ix_c (by omega), dc_let_q, fill_1, nI_1]
    exact ih g (m + 1) (by omega) (by omega) (by omega)
theorem QL_add {T : lh_S} {L : GL} {l : Nat} (qL : QL T L) (hlt : tl_n L < 8) : QL (qAdd T (tl_n L) l) (newL L l) := by
  obtain ⟨l1, l2, l3, l4⟩ := qL
  have en : tl_n (newL L l) = tl_n L + 1 := rfl
  have p1 : ∀ j, tl_par (newL L l) j = va_up (tl_par L) (tl_n L) l j := fun j => rfl
  have p2 : ∀ j, tl_bnd (newL L l) j = va_up (tl_bnd L) (tl_n L) 0 j := fun j => rfl
  have p3 : ∀ j, tl_has (newL L l) j = va_up (tl_has L) (tl_n L) (fun _ => none) j := fun j => rfl
  have p4 : ∀ j, tl_kn (newL L l) j = va_up (tl_kn L) (tl_n L) (fun _ => none) j := fun j => rfl
  have p5 : ∀ j, tl_dg (newL L l) j = va_up (tl_dg L) (tl_n L) (fun _ => false) j := fun j => rfl
  have p6 : ∀ j, tl_grp (newL L l) j = va_up (tl_grp L) (tl_n L) (fun _ => tl_n L) j := fun j => rfl
  rw [QL, en]
  generalize hk : tl_n L = k at *
  refine ⟨?_, fun j hj h0 => ?_, fun j hj => ?_, fun j n hj hn => ?_⟩
  · show nI k + 1 = nI (k + 1)
    exact nI_1 k
  · rw [p1]
    show gvI (pvI (pvI T 10 0 10 (nI k + 1)) 41 0 k (nI l)) 41 0 j = _
    by_cases hjk : j = k
    · subst hjk
      rw [gI_s, va_s]
    · rw [gI_q hjk, va_n hjk]
      exact l2 j (by omega) h0
  · rw [p2]
    refine (show gvI (qAdd T k l) 42 0 j = gvI T 42 0 j from rfl).trans ?_
    rw [l3 j hj]
    by_cases hjk : j = k
    · subst hjk
      rw [va_s, if_neg (by omega), if_pos (by omega)]
    · rw [va_n hjk]
      by_cases h2 : j < k
      · rw [if_pos h2, if_pos (by omega)]
      · rw [if_neg h2, if_neg (by omega)]
  · obtain ⟨a1, a2, a3, a4⟩ := l4 j n hj hn
    rw [p3, p4, p5, p6]
    have e43 : gvI (qAdd T k l) 43 0 (40 * j + n) = gvI T 43 0 (40 * j + n) := rfl
    have e44 : gvI (qAdd T k l) 44 0 (40 * j + n) = gvI T 44 0 (40 * j + n) := rfl
    have e45 : gvI (qAdd T k l) 45 0 (40 * j + n) = gvI T 45 0 (40 * j + n) := rfl
    have e46 : gvI (qAdd T k l) 46 0 (40 * j + n) = if 46 = 46 ∧ 0 = 0 ∧ 40 * k ≤ 40 * j + n ∧ 40 * j + n < 40 * k + 40 then nI k else gvI T 46 0 (40 * j + n) := rfl
    rw [e43, e44, e45, e46, a1, a2, a3]
    by_cases hjk : j = k
    · subst hjk
      have n3 : 46 = 46 ∧ 0 = 0 ∧ 40 * j ≤ 40 * j + n ∧ 40 * j + n < 40 * j + 40 := ⟨rfl, rfl, by omega, by omega⟩
      rw [va_s, va_s, va_s, va_s, if_pos n3]
      simp [oc]
    · rw [va_n hjk, va_n hjk, va_n hjk, va_n hjk, if_neg (c := 46 = 46 ∧ 0 = 0 ∧ 40 * k ≤ 40 * j + n ∧ 40 * j + n < 40 * k + 40) (by omega)]
      by_cases h2 : j < k
      · have h3 : j < k + 1 := by omega
        simp only [h2, h3, if_pos, true_and, true_implies]
        exact a4 h2
      · have h3 : ¬ j < k + 1 := by omega
        simp [h2, h3]
theorem IV_add {L : GL} {F : GF} {C : GC} {O : GO} {l : Nat} (h : IV L F C O) (hl : l < tl_n L) : IV (newL L l) F C O := by
  obtain ⟨i1, i2, i3, i4, i5, i6, i7, i8⟩ := h
  have en : tl_n (newL L l) = tl_n L + 1 := rfl
  refine ⟨fun j h0 hj => ?_, fun j n f hj hn hf => ?_, fun j n c hj hn hc => ?_, fun j n hj hn => ?_, i5, i6, fun c hc => ?_, i8⟩
  · show va_up (tl_par L) (tl_n L) l j < j
    rw [en] at hj
    by_cases hjk : j = tl_n L
    · subst hjk
      rw [va_s]
      exact hl
    · rw [va_n hjk]
      exact i1 j h0 (by omega)
  · rw [en] at hj
    have hf : va_up (tl_has L) (tl_n L) (fun _ => none) j n = some f := hf
    by_cases hjk : j = tl_n L
    · subst hjk
      rw [va_s] at hf
      cases hf
    · rw [va_n hjk] at hf
      exact i2 j n f (by omega) hn hf
  · rw [en] at hj
    have hc : va_up (tl_kn L) (tl_n L) (fun _ => none) j n = some c := hc
    by_cases hjk : j = tl_n L
    · subst hjk
      rw [va_s] at hc
      cases hc
    · rw [va_n hjk] at hc
      exact i3 j n c (by omega) hn hc
  · rw [en] at hj ⊢
    show va_up (tl_grp L) (tl_n L) (fun _ => tl_n L) j n < tl_n L + 1
    by_cases hjk : j = tl_n L
    · subst hjk
      rw [va_s]
      omega
    · rw [va_n hjk]
      have := i4 j n (by omega) hn
      omega
  · obtain ⟨a1, a2⟩ := i7 c hc
    exact ⟨by rw [en]; omega, a2⟩
theorem op_loader {b : Nat} {S : lh_S} (n : Nat) (hn : 100 ≤ n) (h : SIM b S) (x : Int32) : ∃ v S1 S2, f_X9_loader n S 0 x = some (v, S1) ∧ f_X10_loader n S1 0 x = some (v, S2) ∧ SIM b S2 := by
  obtain ⟨L, F, C, O, N, hX, hL, hF, hC, hO, hN, hS, qX, qL, qF, qC, qO, qN, hI, hb⟩ := id h
  have ht : SIM b (pvI S 10 0 0 0) := SIM_thrown h
  have h8 := hL.2.1
  have h1 := hL.1
  have e1 : gvI (pvI S 10 0 0 0) 10 0 10 = nI (tl_n L) := qL.1
  rcases ix2 x (n := tl_n L) (by omega) with hx | ⟨l, hl, rfl⟩
  · refine ⟨-2, S, pvI S 10 0 0 0, ?_, ?_, ht⟩
    · unfold f_X9_loader
      rw [dc_nn_e (cx_r92 hX), ev_at_f n hL hx, dc_bd_s, dc_if_p rfl]
    · unfold f_X10_loader
      rw [dc_let_q, e1, dc_if_n (nI_nle (by omega) (by omega)), qv_isLoader_f n e1 hx (by omega), dc_bd_s, dc_if_p rfl]
  by_cases hfull : tl_n L = 8
  · refine ⟨-5, S, pvI S 10 0 0 0, ?_, ?_, ht⟩
    · unfold f_X9_loader
      rw [dc_nn_e (cx_r92 hX), ev_at_t n hX hL hl, dc_bd_s, dc_if_n (fun q => by cases q), dc_nn_e (cx_r92 hX), hL.2.2.2.1, hfull, dc_if_n (by decide)]
    · unfold f_X10_loader
      rw [dc_let_q, dc_if_n (by rw [e1]; exact nI_nle (by omega) (by omega)), qv_isLoader_t n e1 hl (by omega), dc_bd_s, dc_if_n (by decide), e1, hfull, dc_if_p (by decide)]
  have hlt : tl_n L < 8 := by omega
  obtain ⟨S1, hS1⟩ : ∃ S1, S1 = sAdd S (tl_n L) (some l) := ⟨_, rfl⟩
  have a6 := CL_add (l := l) hL.2 hlt hI.2.2.2.1
  rw [if_neg (show ¬ tl_n L = 0 by omega), ← hS1] at a6
  have hcc : f_X9_loader n S 0 (nI l) = some (nI (tl_n L), S1) := by
    unfold f_X9_loader
    obtain ⟨m2, m12, m13, m14, m15⟩ := hL.2.2.1
    rw [dc_nn_e (cx_r92 hX), ev_at_t n hX hL hl, dc_bd_s, dc_if_n (fun q => by cases q), dc_nn_e (cx_r92 hX), hL.2.2.2.1, dc_if_p (show nI (tl_n L) < (8 : Int32) from nI_lt (b := 8) hlt (by omega)), ev_X3_add n hn (some l) m2 m12 m13 m14 m15 hL.2.2.2.1 hlt (cx_r30 hX) (cx_l16 hX), dc_bd_s, dc_nn_s, ← hS1, (a6.2.2.2.2.2.1 (tl_n L) (show tl_n L < tl_n L + 1 by omega)).1]
  have k9 := k_X9_loader hcc
  have qX1 : QX S1 := QX_9 k9 qX
  have qL1 := QL_9 k9 qL
  have qF1 := QF_9 k9 qF
  have qC1 := QC_9 k9 qC
  have qO1 := QO_9 k9 qO
  have qN1 := QN_9 k9 qN
  have e2 : gvI (pvI S1 10 0 0 0) 10 0 10 = nI (tl_n L) := qL1.1
  refine ⟨nI (tl_n L), S1, qAdd (pvI S1 10 0 0 0) (tl_n L) l, hcc, ?_, ?_⟩
  · have q1 : QX (pvI (pvI S1 10 0 0 0) 10 0 10 (nI (tl_n L) + 1)) := qX1
    have q2 : QX (pvI (pvI (pvI S1 10 0 0 0) 10 0 10 (nI (tl_n L) + 1)) 41 0 (tl_n L) (nI l)) := qX1
    have el := ev_L59 (k := tl_n L) n (nI l) hlt (qx_16 q2) (ql_46 q2) 40 n 0 (by omega) (by omega) (by omega)
    rw [fill_0] at el
    unfold f_X10_loader
    rw [dc_let_q, dc_if_n (by rw [e2]; exact nI_nle (by omega) (by omega)), qv_isLoader_t n e2 hl (by omega), dc_bd_s, dc_if_n (by decide), e2, dc_if_n (show ¬ nI (tl_n L) = (8 : Int32) from fun q => by have := (nI_eq (a := tl_n L) (b := 8) (by omega) (by omega)).mp q; omega), dc_let_q, dc_let_q, dc_nn_e (qx_11 q1), dc_gd_n (by rw [ql_41 q1]; exact ix_in hlt (by omega)), ix_c (by omega), dc_let_q]
    exact el
  · have a4 := QL_add (T := pvI S1 10 0 0 0) (l := l) qL1 hlt
    have c1 : CX S1 := by rw [hS1]; exact hX
    have c3 : CF S1 F := by rw [hS1]; exact hF
    have c4 : CC S1 C := by rw [hS1]; exact hC
    have c2 : CO S1 O := by rw [hS1]; exact hO
    have c5 : CN S1 N := by rw [hS1]; exact hN
    have c6 : CS S1 := by rw [hS1]; exact hS
    exact ⟨newL L l, F, C, O, N, c1, a6, c3, c4, c2, c5, c6, qX1, a4, qF1, qC1, qO1, qN1, IV_add hI hl, hb⟩
