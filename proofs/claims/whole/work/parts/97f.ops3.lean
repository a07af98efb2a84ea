/-- class c is d, or d stands above it -/
def ofF (ab : Nat → Option Nat) : Nat → Nat → Nat → Bool
  | 0, _, _ => false
  | k + 1, c, d => if c = d then true else match ab c with
    | none => false
    | some a => ofF ab k a d
theorem cl_isOf {S : lh_S} {C : GC} (hC : CC S C) (hI : ∀ c, c < tc_n C → ∀ a, tc_ab C c = some a → a < c) (n t d : Nat) : ∀ (k c g : Nat), c < k → c < tc_n C → c + 2 ≤ g → f_X5_isOf_L2 n t (some d) g S (some c) = some (if ofF (tc_ab C) k c d then 1 else 0, S) := by
  intro k
  induction k with
  | zero => intro c g h; omega
  | succ k ih =>
    intro c g hk hc hg
    obtain ⟨g, rfl⟩ : ∃ q, g = q + 1 := ⟨g - 1, by omega⟩
    rw [f_X5_isOf_L2, dc_if_n (fun q => by cases q)]
    unfold ofF
    by_cases hcd : c = d
    · rw [dc_if_p (by rw [hcd]), if_pos hcd]; rfl
    · rw [dc_if_n (fun q => hcd (Option.some.inj q)), if_neg hcd, dc_nn_s, (hC.2.2.2.2 c hc).2.2.2.1]
      cases ha : tc_ab C c with
      | none =>
        obtain ⟨g, rfl⟩ : ∃ q, g = q + 1 := ⟨g - 1, by omega⟩
        rw [f_X5_isOf_L2, dc_if_p rfl]
        rfl
      | some a =>
        have := hI c hc a ha
        exact ih a g (by omega) (by omega) (by omega)
theorem rf_isOf {S : lh_S} {C : GC} {F : GF} (qX : QX S) (qC : QC S C F) (h40 : tc_n C ≤ 40) (hI : ∀ c, c < tc_n C → ∀ a, tc_ab C c = some a → a < c) (n : Nat) (p1 : Int32) (d : Nat) (hd : d < 40) : ∀ (k c g : Nat), c < k → c < tc_n C → c + 2 ≤ g → f_X10_isOf_L2 n 0 p1 (nI d) g S (nI c) = some (if ofF (tc_ab C) k c d then 1 else 0, S) := by
  intro k
  induction k with
  | zero => intro c g h; omega
  | succ k ih =>
    intro c g hk hc hg
    obtain ⟨g, rfl⟩ : ∃ q, g = q + 1 := ⟨g - 1, by omega⟩
    rw [f_X10_isOf_L2, dc_if_n (nI_pos (by omega))]
    unfold ofF
    by_cases hcd : c = d
    · rw [dc_if_p (by rw [hcd]), dc_if_p (by rw [hcd]), if_pos hcd]; rfl
    · rw [dc_if_n (fun q => hcd ((nI_eq (by omega) (by omega)).mp q)), if_neg hcd, dc_nn_e (qx_21 qX), dc_gd_n (by rw [ql_51 qX]; exact ix_in (by omega) (by omega)), ix_c (by omega), (qC.2.1 c hc).2.2.2.1]
      cases ha : tc_ab C c with
      | none =>
        obtain ⟨g, rfl⟩ : ∃ q, g = q + 1 := ⟨g - 1, by omega⟩
        have hm : nI (oc none) - 1 = (-1 : Int32) := rfl
        rw [hm, f_X10_isOf_L2, dc_if_p (by decide), dc_if_n (fun q => by
          have := congrArg Int32.toInt q
          rw [nI_toInt (by omega)] at this
          have h2 : ((-1 : Int32).toInt) = -1 := rfl
          omega)]
        rfl
      | some a =>
        have := hI c hc a ha
        rw [show nI (oc (some a)) - 1 = nI a from nI_pred a]
        exact ih a g (by omega) (by omega) (by omega)
theorem ev_answ {S : lh_S} (n : Nat) {v : Int32} (h1 : 1 ≤ v.toInt) (h2 : v.toInt ≤ 100) : f_X9_answered n S 0 (-10 - v) = some (-10 - v, pvI S 9 0 9 v) := by
  unfold f_X9_answered
  have e0 : ((-10 : Int32)).toInt = -10 := rfl
  have e1 : (-10 - v : Int32).toInt = -10 - v.toInt := by
    rw [Int32.toInt_sub, e0]
    simp only [Int.bmod]
    omega
  have e2 : (-10 : Int32) - (-10 - v) = v := by
    apply Int32.toInt_inj.mp
    rw [Int32.toInt_sub, e1, e0]
    simp only [Int.bmod]
    omega
  rw [dc_if_n, dc_let_q, e2]
  intro h
  rw [Int32.le_iff_toInt_le, e1, e0] at h
  omega
theorem ev_answ1 {S : lh_S} (n : Nat) {v : Int32} (h1 : -10 ≤ v.toInt) : f_X9_answered n S 0 v = some (v, S) := by
  unfold f_X9_answered
  rw [dc_if_p (by rw [Int32.le_iff_toInt_le]; exact h1)]
theorem op_cast {b : Nat} {S : lh_S} (n : Nat) (hn : 100 ≤ n) (h : SIM b S) (x y : Int32) : ∃ v S1 S2, f_X9_cast n S 0 x y = some (v, S1) ∧ f_X10_cast n S1 0 x y = some (v, S2) ∧ SIM b S2 := by
  obtain ⟨L, F, C, O, N, hX, hL, hF, hC, hO, hN, hS, qX, qL, qF, qC, qO, qN, hI, hb⟩ := id h
  have ht : SIM b (pvI S 10 0 0 0) := SIM_thrown h
  have h40 := hC.1
  have h60 := hO.1
  have e1 : gvI (pvI S 10 0 0 0) 10 0 17 = nI (tc_n C) := qC.1
  have e2 : gvI (pvI S 10 0 0 0) 10 0 36 = nI (to_n O) := qO.1
  rcases ix2 x (n := to_n O) (by omega) with hx | ⟨o, ho, rfl⟩
  · refine ⟨-2, S, pvI S 10 0 0 0, ?_, ?_, ht⟩
    · unfold f_X9_cast
      rcases ix2 y (n := tc_n C) (by omega) with hy | ⟨d, hd, rfl⟩
      · rw [ev_classOfObject_f n hO hx, dc_bd_s, dc_nn_e (cx_r93 hX), ev_classAt_f n hC hy, dc_bd_s, dc_if_p rfl]
      · rw [ev_classOfObject_f n hO hx, dc_bd_s, dc_nn_e (cx_r93 hX), ev_classAt_t n hX hC hd, dc_bd_s, dc_if_p rfl]
    · unfold f_X10_cast
      rw [dc_let_q, qv_isObject_f n e2 hx (by omega), dc_bd_s, dc_if_p rfl]
  · have hoc := hI.2.2.2.2.2.2.2.1 o ho
    rcases ix2 y (n := tc_n C) (by omega) with hy | ⟨d, hd, rfl⟩
    · refine ⟨-2, S, pvI S 10 0 0 0, ?_, ?_, ht⟩
      · unfold f_X9_cast
        rw [ev_classOfObject_t n hX hO ho, dc_bd_s, dc_nn_e (cx_r93 hX), ev_classAt_f n hC hy, dc_bd_s, dc_if_n (fun q => by cases q), dc_if_p rfl]
      · unfold f_X10_cast
        rw [dc_let_q, qv_isObject_t n e2 ho (by omega), dc_bd_s, dc_if_n (by decide), qv_isClass_f n e1 hy (by omega), dc_bd_s, dc_if_p rfl]
    · have hab := fun c hc => (hI.2.2.2.2.2.2.1 c hc).2.2.2
      have k1 : f_X5_isOf n S (to_cl O o) (some d) = some (if ofF (tc_ab C) 40 (to_cl O o) d then 1 else 0, S) := cl_isOf hC hab n _ d 40 _ n (by omega) hoc (by omega)
      have k2 : ∀ S', QX S' → QC S' C F → f_X10_isOf n S' 0 (nI (to_cl O o)) (nI d) = some (if ofF (tc_ab C) 40 (to_cl O o) d then 1 else 0, S') := fun S' q1 q2 => rf_isOf q1 q2 h40 hab n _ d (by omega) 40 _ n (by omega) hoc (by omega)
      cases hof : ofF (tc_ab C) 40 (to_cl O o) d with
      | true =>
        rw [hof] at k1 k2
        refine ⟨1, S, pvI S 10 0 0 0, ?_, ?_, ht⟩
        · unfold f_X9_cast
          rw [ev_classOfObject_t n hX hO ho, dc_bd_s, dc_nn_e (cx_r93 hX), ev_classAt_t n hX hC hd, dc_bd_s, dc_if_n (fun q => by cases q), dc_if_n (fun q => by cases q), dc_nn_s, k1, dc_bd_s, dc_if_n (by decide)]
        · unfold f_X10_cast
          rw [dc_let_q, qv_isObject_t n e2 ho (by omega), dc_bd_s, dc_if_n (by decide), qv_isClass_t n e1 hd (by omega), dc_bd_s, dc_if_n (by decide), dc_nn_e (show gvR (pvI S 10 0 0 0) 10 0 37 = some 0 from qx_37 qX), dc_gd_n (by rw [show gvL (pvI S 10 0 0 0) 67 0 = 60 from ql_67 qX]; exact ix_in (by omega) (by omega)), ix_c (by omega), show gvI (pvI S 10 0 0 0) 67 0 o = _ from qO.2.1 o ho, k2 (pvI S 10 0 0 0) qX qC, dc_bd_s, dc_if_n (by decide)]
      | false =>
        rw [hof] at k1 k2
        have e3 : gvI (pvI (pvI S 9 0 9 5) 10 0 0 0) 10 0 17 = nI (tc_n C) := qC.1
        have e4 : gvI (pvI (pvI S 9 0 9 5) 10 0 0 0) 10 0 36 = nI (to_n O) := qO.1
        refine ⟨-10 - 5, pvI S 9 0 9 5, pvI (pvI (pvI S 9 0 9 5) 10 0 0 0) 10 0 24 5, ?_, ?_, SIM_fail h⟩
        · unfold f_X9_cast
          rw [ev_classOfObject_t n hX hO ho, dc_bd_s, dc_nn_e (cx_r93 hX), ev_classAt_t n hX hC hd, dc_bd_s, dc_if_n (fun q => by cases q), dc_if_n (fun q => by cases q), dc_nn_s, k1, dc_bd_s, dc_if_p (by decide), show f_X9_failed n S 5 = some (-10 - 5, S) from rfl, dc_bd_s, ev_answ n (by decide) (by decide), dc_bd_s]
        · unfold f_X10_cast
          rw [dc_let_q, qv_isObject_t n e4 ho (by omega), dc_bd_s, dc_if_n (by decide), qv_isClass_t n e3 hd (by omega), dc_bd_s, dc_if_n (by decide), dc_nn_e (show gvR (pvI (pvI S 9 0 9 5) 10 0 0 0) 10 0 37 = some 0 from qx_37 qX), dc_gd_n (by rw [show gvL (pvI (pvI S 9 0 9 5) 10 0 0 0) 67 0 = 60 from ql_67 qX]; exact ix_in (by omega) (by omega)), ix_c (by omega), show gvI (pvI (pvI S 9 0 9 5) 10 0 0 0) 67 0 o = _ from qO.2.1 o ho, k2 (pvI (pvI S 9 0 9 5) 10 0 0 0) qX qC, dc_bd_s, dc_if_p (by decide)]
          rfl
theorem op_castRow {b : Nat} {S : lh_S} (n : Nat) (hn : 100 ≤ n) (h : SIM b S) (x y : Int32) : ∃ v S1 S2, f_X9_castRow n S 0 x y = some (v, S1) ∧ f_X10_castRow n S1 0 x y = some (v, S2) ∧ SIM b S2 := by
  obtain ⟨L, F, C, O, N, hX, hL, hF, hC, hO, hN, hS, qX, qL, qF, qC, qO, qN, hI, hb⟩ := id h
  have ht : SIM b (pvI S 10 0 0 0) := SIM_thrown h
  have h40 := hC.1
  have h60 := hO.2.2.2.1
  have e1 : gvI (pvI S 10 0 0 0) 10 0 17 = nI (tc_n C) := qC.1
  have e2 : gvI (pvI S 10 0 0 0) 10 0 38 = nI (to_r O) := qO.2.2.1
  rcases ix2 x (n := to_r O) (by omega) with hx | ⟨o, ho, rfl⟩
  · refine ⟨-2, S, pvI S 10 0 0 0, ?_, ?_, ht⟩
    · unfold f_X9_castRow
      rcases ix2 y (n := tc_n C) (by omega) with hy | ⟨d, hd, rfl⟩
      · rw [ev_rowAt_f n hO hx, dc_bd_s, dc_nn_e (cx_r93 hX), ev_classAt_f n hC hy, dc_bd_s, dc_if_p rfl]
      · rw [ev_rowAt_f n hO hx, dc_bd_s, dc_nn_e (cx_r93 hX), ev_classAt_t n hX hC hd, dc_bd_s, dc_if_p rfl]
    · unfold f_X10_castRow
      rw [dc_let_q, qv_isRow_f n e2 hx (by omega), dc_bd_s, dc_if_p rfl]
  · have hoc := hI.2.2.2.2.2.2.2.2 o ho
    rcases ix2 y (n := tc_n C) (by omega) with hy | ⟨d, hd, rfl⟩
    · refine ⟨-2, S, pvI S 10 0 0 0, ?_, ?_, ht⟩
      · unfold f_X9_castRow
        rw [ev_rowAt_t n hX hO ho, dc_bd_s, dc_nn_e (cx_r93 hX), ev_classAt_f n hC hy, dc_bd_s, dc_if_n (fun q => by cases q), dc_if_p rfl]
      · unfold f_X10_castRow
        rw [dc_let_q, qv_isRow_t n e2 ho (by omega), dc_bd_s, dc_if_n (by decide), qv_isClass_f n e1 hy (by omega), dc_bd_s, dc_if_p rfl]
    · have hab := fun c hc => (hI.2.2.2.2.2.2.1 c hc).2.2.2
      have k1 : f_X5_isOf n S (to_rc O o) (some d) = some (if ofF (tc_ab C) 40 (to_rc O o) d then 1 else 0, S) := cl_isOf hC hab n _ d 40 _ n (by omega) hoc (by omega)
      have k2 : ∀ S', QX S' → QC S' C F → f_X10_isOf n S' 0 (nI (to_rc O o)) (nI d) = some (if ofF (tc_ab C) 40 (to_rc O o) d then 1 else 0, S') := fun S' q1 q2 => rf_isOf q1 q2 h40 hab n _ d (by omega) 40 _ n (by omega) hoc (by omega)
      cases hof : ofF (tc_ab C) 40 (to_rc O o) d with
      | true =>
        rw [hof] at k1 k2
        refine ⟨1, S, pvI S 10 0 0 0, ?_, ?_, ht⟩
        · unfold f_X9_castRow
          rw [ev_rowAt_t n hX hO ho, dc_bd_s, dc_nn_e (cx_r93 hX), ev_classAt_t n hX hC hd, dc_bd_s, dc_if_n (fun q => by cases q), dc_if_n (fun q => by cases q), dc_nn_s, dc_nn_e (hO.2.2.2.2.2.2 o ho).2.1, k1, dc_bd_s, dc_if_n (by decide)]
        · unfold f_X10_castRow
          rw [dc_let_q, qv_isRow_t n e2 ho (by omega), dc_bd_s, dc_if_n (by decide), qv_isClass_t n e1 hd (by omega), dc_bd_s, dc_if_n (by decide), dc_nn_e (show gvR (pvI S 10 0 0 0) 10 0 39 = some 0 from qx_39 qX), dc_gd_n (by rw [show gvL (pvI S 10 0 0 0) 69 0 = 20 from ql_69 qX]; exact ix_in (by omega) (by omega)), ix_c (by omega), show gvI (pvI S 10 0 0 0) 69 0 o = _ from (qO.2.2.2.1 o ho).1, k2 (pvI S 10 0 0 0) qX qC, dc_bd_s, dc_if_n (by decide)]
      | false =>
        rw [hof] at k1 k2
        have e3 : gvI (pvI (pvI S 9 0 9 5) 10 0 0 0) 10 0 17 = nI (tc_n C) := qC.1
        have e4 : gvI (pvI (pvI S 9 0 9 5) 10 0 0 0) 10 0 38 = nI (to_r O) := qO.2.2.1
        refine ⟨-10 - 5, pvI S 9 0 9 5, pvI (pvI (pvI S 9 0 9 5) 10 0 0 0) 10 0 24 5, ?_, ?_, SIM_fail h⟩
        · unfold f_X9_castRow
          rw [ev_rowAt_t n hX hO ho, dc_bd_s, dc_nn_e (cx_r93 hX), ev_classAt_t n hX hC hd, dc_bd_s, dc_if_n (fun q => by cases q), dc_if_n (fun q => by cases q), dc_nn_s, dc_nn_e (hO.2.2.2.2.2.2 o ho).2.1, k1, dc_bd_s, dc_if_p (by decide), show f_X9_failed n S 5 = some (-10 - 5, S) from rfl, dc_bd_s, ev_answ n (by decide) (by decide), dc_bd_s]
        · unfold f_X10_castRow
          rw [dc_let_q, qv_isRow_t n e4 ho (by omega), dc_bd_s, dc_if_n (by decide), qv_isClass_t n e3 hd (by omega), dc_bd_s, dc_if_n (by decide), dc_nn_e (show gvR (pvI (pvI S 9 0 9 5) 10 0 0 0) 10 0 39 = some 0 from qx_39 qX), dc_gd_n (by rw [show gvL (pvI (pvI S 9 0 9 5) 10 0 0 0) 69 0 = 20 from ql_69 qX]; exact ix_in (by omega) (by omega)), ix_c (by omega), show gvI (pvI (pvI S 9 0 9 5) 10 0 0 0) 69 0 o = _ from (qO.2.2.2.1 o ho).1, k2 (pvI (pvI S 9 0 9 5) 10 0 0 0) qX qC, dc_bd_s, dc_if_p (by decide)]
          rfl
theorem ev_hasPlace_t {S : lh_S} {O : GO} (n : Nat) (hO : CO S O) {q i : Nat} (hq : q < to_r O) (hi : i < to_rs O q) : f_X7_hasPlace n S q (nI i) = some (1, S) := by
  have h8 := (hO.2.2.2.2.2.2 q hq).2.2.2.2.1
  unfold f_X7_hasPlace
  rw [dc_if_n (nI_pos (by omega)), dc_nn_e (hO.2.2.2.2.2.2 q hq).2.2.1, (hO.2.2.2.2.2.2 q hq).2.2.2.1, dc_if_n (nI_ge hi (by omega))]
theorem ev_hasPlace_f {S : lh_S} {O : GO} (n : Nat) (hO : CO S O) {q : Nat} {x : Int32} (hq : q < to_r O) (hx : x < 0 ∨ nI (to_rs O q) ≤ x) : f_X7_hasPlace n S q x = some (0, S) := by
  unfold f_X7_hasPlace
  rcases hx with hx | hx
  · rw [dc_if_p hx]
  · by_cases h0 : x < 0
    · rw [dc_if_p h0]
    · rw [dc_if_n h0, dc_nn_e (hO.2.2.2.2.2.2 q hq).2.2.1, (hO.2.2.2.2.2.2 q hq).2.2.2.1, dc_if_p hx]
theorem op_get {b : Nat} {S : lh_S} (n : Nat) (h : SIM b S) (x y : Int32) : ∃ v S1 S2, f_X9_get n S 0 x y = some (v, S1) ∧ f_X10_get n S1 0 x y = some (v, S2) ∧ SIM b S2 := by
  obtain ⟨L, F, C, O, N, hX, hL, hF, hC, hO, hN, hS, qX, qL, qF, qC, qO, qN, hI, hb⟩ := id h
  have ht : SIM b (pvI S 10 0 0 0) := SIM_thrown h
  have h20 := hO.2.2.2.1
  have e2 : gvI (pvI S 10 0 0 0) 10 0 38 = nI (to_r O) := qO.2.2.1
  rcases ix2 x (n := to_r O) (by omega) with hx | ⟨q, hq, rfl⟩
  · refine ⟨-2, S, pvI S 10 0 0 0, ?_, ?_, ht⟩
    · unfold f_X9_get
      rw [ev_rowAt_f n hO hx, dc_bd_s, dc_if_p rfl]
    · unfold f_X10_get
      rw [dc_let_q, qv_isRow_f n e2 hx (by omega), dc_bd_s, dc_if_p rfl]
  · obtain ⟨a1, a2, a3, a4, a5, a6⟩ := hO.2.2.2.2.2.2 q hq
    obtain ⟨b1, b2, b3⟩ := qO.2.2.2.1 q hq
    rcases ix2 y (n := to_rs O q) (by omega) with hy | ⟨i, hi, rfl⟩
    · have e3 : gvI (pvI (pvI S 9 0 9 11) 10 0 0 0) 10 0 38 = nI (to_r O) := qO.2.2.1
      refine ⟨-10 - 11, pvI S 9 0 9 11, pvI (pvI (pvI S 9 0 9 11) 10 0 0 0) 10 0 24 11, ?_, ?_, SIM_fail h⟩
      · unfold f_X9_get
        rw [ev_rowAt_t n hX hO hq, dc_bd_s, dc_if_n (fun q => by cases q), dc_nn_s, ev_hasPlace_f n hO hq hy, dc_bd_s, dc_if_p rfl, show f_X9_failed n S 11 = some (-10 - 11, S) from rfl, dc_bd_s, ev_answ n (by decide) (by decide), dc_bd_s]
      · unfold f_X10_get
        rw [dc_let_q, qv_isRow_t n e3 hq (by omega), dc_bd_s, dc_if_n (by decide), dc_nn_e (show gvR (pvI (pvI S 9 0 9 11) 10 0 0 0) 10 0 40 = some 0 from qx_40 qX), dc_gd_n (by rw [show gvL (pvI (pvI S 9 0 9 11) 10 0 0 0) 70 0 = 20 from ql_70 qX]; exact ix_in (by omega) (by omega)), ix_c (by omega), show gvI (pvI (pvI S 9 0 9 11) 10 0 0 0) 70 0 q = _ from b2, dc_let_q, in_cf n _ hy (by omega), dc_bd_s, dc_if_p rfl]
        rfl
    · refine ⟨to_ri O q i, S, pvI S 10 0 0 0, ?_, ?_, ht⟩
      · unfold f_X9_get
        rw [ev_rowAt_t n hX hO hq, dc_bd_s, dc_if_n (fun q => by cases q), dc_nn_s, ev_hasPlace_t n hO hq hi, dc_bd_s, dc_if_n (by decide), dc_nn_e a3, dc_gd_n (by rw [a4]; exact ix_in hi (by omega)), ix_c (by omega), a6 i hi]
      · unfold f_X10_get
        rw [dc_let_q, qv_isRow_t n e2 hq (by omega), dc_bd_s, dc_if_n (by decide), dc_nn_e (show gvR (pvI S 10 0 0 0) 10 0 40 = some 0 from qx_40 qX), dc_gd_n (by rw [show gvL (pvI S 10 0 0 0) 70 0 = 20 from ql_70 qX]; exact ix_in (by omega) (by omega)), ix_c (by omega), show gvI (pvI S 10 0 0 0) 70 0 q = _ from b2, dc_let_q, in_ct n _ hi (by omega), dc_bd_s, dc_if_n (by decide), dc_nn_e (show gvR (pvI S 10 0 0 0) 10 0 41 = some 0 from qx_41 qX), at8, dc_gd_n (by rw [show gvL (pvI S 10 0 0 0) 71 0 = 160 from ql_71 qX]; exact ix_in (by omega) (by omega)), ix_c (by omega), show gvI (pvI S 10 0 0 0) 71 0 (8 * q + i) = _ from b3 i hi, dc_let_q]
        congr 2
        apply Int32.toBitVec_inj.mp
        simp
