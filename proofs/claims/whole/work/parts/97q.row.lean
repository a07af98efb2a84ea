/-- a row of one array filled: the places o .. o + m - 1 hold v -/
def fillI (S : lh_S) (a i o m : Nat) (v : Int32) : lh_S := (S.1, S.2.1, fun b j q => if b = a ∧ j = i ∧ o ≤ q ∧ q < o + m then v else S.2.2.1 b j q, S.2.2.2)
theorem gI_fill (S : lh_S) (a i o m : Nat) (v : Int32) (b j q : Nat) : gvI (fillI S a i o m v) b j q = if b = a ∧ j = i ∧ o ≤ q ∧ q < o + m then v else gvI S b j q := rfl
theorem fill_0 (S : lh_S) (a i o : Nat) (v : Int32) : fillI S a i o 0 v = S := by
  have : (fun b j q => if b = a ∧ j = i ∧ o ≤ q ∧ q < o + 0 then v else S.2.2.1 b j q) = S.2.2.1 := by
    funext b j q
    rw [if_neg (by omega)]
  unfold fillI
  rw [this]
theorem fill_1 (S : lh_S) (a i o m : Nat) (v : Int32) : pvI (fillI S a i o m v) a i (o + m) v = fillI S a i o (m + 1) v := by
  have : lh_u3 (fun b j q => if b = a ∧ j = i ∧ o ≤ q ∧ q < o + m then v else S.2.2.1 b j q) a i (o + m) v = (fun b j q => if b = a ∧ j = i ∧ o ≤ q ∧ q < o + (m + 1) then v else S.2.2.1 b j q) := by
    funext b j q
    unfold lh_u3
    by_cases h : b = a ∧ j = i ∧ q = o + m
    · rw [if_pos h, if_pos ⟨h.1, h.2.1, by omega, by omega⟩]
    · rw [if_neg h]
      show (if b = a ∧ j = i ∧ o ≤ q ∧ q < o + m then v else S.2.2.1 b j q) = _
      by_cases h2 : b = a ∧ j = i ∧ o ≤ q ∧ q < o + m
      · rw [if_pos h2, if_pos ⟨h2.1, h2.2.1, h2.2.2.1, by omega⟩]
      · rw [if_neg h2, if_neg]
        rintro ⟨y1, y2, y3, y4⟩
        by_cases h5 : q = o + m
        · exact h ⟨y1, y2, h5⟩
        · exact h2 ⟨y1, y2, y3, by omega⟩
  unfold fillI pvI
  rw [← this]
theorem ev_X7_loop {S : lh_S} {r len : Nat} (n : Nat) (p1 : Option Nat) (h1 : gvR S 7 r 1 = some r) (h2 : gvL S 20 r = len) (h8 : len ≤ 8) : ∀ (d g m : Nat), len - m = d → m ≤ len → d + 1 ≤ g → f_X7_init_L18 n r p1 (nI len) g (fillI S 20 r 0 m (-1)) (nI m) = some ((), fillI S 20 r 0 len (-1)) := by
  intro d
  induction d with
  | zero =>
    intro g m hd hm hg
    obtain ⟨g, rfl⟩ : ∃ q, g = q + 1 := ⟨g - 1, by omega⟩
    have : m = len := by omega
    subst this
    rw [f_X7_init_L18, dc_if_p (nI_le (by omega) (by omega))]
  | succ d ih =>
    intro g m hd hm hg
    obtain ⟨g, rfl⟩ : ∃ q, g = q + 1 := ⟨g - 1, by omega⟩
    rw [f_X7_init_L18, dc_if_n (nI_ge (by omega) (by omega)), dc_nn_e (show gvR (fillI S 20 r 0 m (-1)) 7 r 1 = some r from h1), dc_gd_n (by rw [show gvL (fillI S 20 r 0 m (-1)) 20 r = len from h2]; exact ix_in (by omega) (by omega)), ix_c (by omega), dc_let_q]
    have e := fill_1 S 20 r 0 m (-1)
    rw [Nat.zero_add] at e
    rw [e, nI_1]
    exact ih g (m + 1) (by omega) (by omega) (by omega)
def sRow (S : lh_S) (r c len : Nat) : lh_S := pvI (pvR (fillI (pvR (pvN (pvR (pvN S 7 0) 7 r 0 (some c)) 20 len) 7 r 1 (some r)) 20 r 0 len (-1)) 23 0 r (some r)) 9 0 7 (nI r + 1)
def newRow (O : GO) (c len : Nat) : GO := (to_n O, to_cl O, to_r O + 1, va_up (to_rc O) (to_r O) c, va_up (to_rs O) (to_r O) len, va_up (to_ri O) (to_r O) (fun _ => -1))
theorem CO_row {S : lh_S} {O : GO} {c len : Nat} (hO : CO S O) (hlt : to_r O < 20) (h8 : len ≤ 8) : CO (sRow S (to_r O) c len) (newRow O c len) := by
  obtain ⟨o1, o2, o3, o4, ⟨o5, o6⟩, o7, o8⟩ := hO
  have er : to_r (newRow O c len) = to_r O + 1 := rfl
  generalize hr : to_r O = r at *
  have e20 : gvN (pvR (pvN S 7 0) 7 r 0 (some c)) 20 = r := o6
  refine ⟨o1, o2, o3, by rw [er]; omega, ⟨?_, ?_⟩, ?_, fun q hq => ?_⟩
  · rw [er]
    show gvN (pvN S 7 0) 7 = r + 1
    rw [gN_pN, if_pos rfl, o5]
  · rw [er]
    show gvN (pvN (pvR (pvN S 7 0) 7 r 0 (some c)) 20 len) 20 = r + 1
    rw [gN_pN, if_pos rfl, e20]
  · rw [er]
    show nI r + 1 = nI (r + 1)
    exact nI_1 r
  · rw [er] at hq
    by_cases hqr : q = r
    · subst hqr
      have n1 : to_rc (newRow O c len) q = c := by unfold newRow; rw [hr]; exact va_s
      have n2 : to_rs (newRow O c len) q = len := by unfold newRow; rw [hr]; exact va_s
      have n3 : ∀ i, to_ri (newRow O c len) q i = -1 := by
        intro i
        unfold newRow; rw [hr]
        show va_up (to_ri O) q (fun _ => -1) q i = -1
        rw [va_s]
      rw [n1, n2]
      refine ⟨gR_s, ?_, ?_, ?_, h8, fun i hi => ?_⟩
      · show gvR (pvR (pvN (pvR (pvN S 7 0) 7 q 0 (some c)) 20 len) 7 q 1 (some q)) 7 q 0 = some c
        rw [gR_q (by decide)]
        show gvR (pvR (pvN S 7 0) 7 q 0 (some c)) 7 q 0 = some c
        exact gR_s
      · show gvR (pvR (pvN (pvR (pvN S 7 0) 7 q 0 (some c)) 20 len) 7 q 1 (some q)) 7 q 1 = some q
        exact gR_s
      · show gvL (pvN (pvR (pvN S 7 0) 7 q 0 (some c)) 20 len) 20 q = len
        rw [gL_pN, e20, if_pos ⟨rfl, rfl⟩]
      · rw [n3]
        show gvI (fillI _ 20 q 0 len (-1)) 20 q i = -1
        rw [gI_fill, if_pos ⟨rfl, rfl, by omega, by omega⟩]
    · have n1 : to_rc (newRow O c len) q = to_rc O q := by unfold newRow; rw [hr]; exact va_n hqr
      have n2 : to_rs (newRow O c len) q = to_rs O q := by unfold newRow; rw [hr]; exact va_n hqr
      have n3 : ∀ i, to_ri (newRow O c len) q i = to_ri O q i := by
        intro i
        unfold newRow; rw [hr]
        show va_up (to_ri O) r (fun _ => -1) q i = _
        rw [va_n hqr]
      rw [n1, n2]
      obtain ⟨a1, a2, a3, a4, a5, a6⟩ := o8 q (by omega)
      refine ⟨?_, ?_, ?_, ?_, a5, fun i hi => ?_⟩
      · show gvR (pvR _ 23 0 r (some r)) 23 0 q = some q
        rw [gR_q hqr]
        exact a1
      · rw [← a2]
        show gvR (pvR (pvN (pvR (pvN S 7 0) 7 r 0 (some c)) 20 len) 7 r 1 (some r)) 7 q 0 = _
        rw [gR_j hqr]
        show gvR (pvR (pvN S 7 0) 7 r 0 (some c)) 7 q 0 = _
        rw [gR_j hqr, gR_pN, if_neg (by omega)]
      · refine Eq.trans ?_ a3
        show gvR (pvR (pvN (pvR (pvN S 7 0) 7 r 0 (some c)) 20 len) 7 r 1 (some r)) 7 q 1 = _
        rw [gR_j hqr]
        show gvR (pvR (pvN S 7 0) 7 r 0 (some c)) 7 q 1 = _
        rw [gR_j hqr, gR_pN, if_neg (by omega)]
      · rw [← a4]
        show gvL (pvN (pvR (pvN S 7 0) 7 r 0 (some c)) 20 len) 20 q = _
        rw [gL_pN, e20, if_neg (by omega)]
        rfl
      · rw [n3, ← a6 i hi]
        show gvI (fillI _ 20 r 0 len (-1)) 20 q i = _
        rw [gI_fill, if_neg (by omega)]
        show gvI (pvN (pvR (pvN S 7 0) 7 r 0 (some c)) 20 len) 20 q i = _
        rw [gI_pN, e20, if_neg (by omega)]
        rfl
def qRow (T : lh_S) (r c len : Nat) : lh_S := pvI (pvI (pvI T 69 0 r (nI c)) 70 0 r (nI len)) 10 0 38 (nI r + 1)
theorem QO_row {T : lh_S} {O : GO} {c len : Nat} (qO : QO T O) (hlt : to_r O < 20) (h8 : len ≤ 8) : QO (qRow T (to_r O) c len) (newRow O c len) := by
  obtain ⟨o1, o2, o3, o4, o5, o6⟩ := qO
  have er : to_r (newRow O c len) = to_r O + 1 := rfl
  generalize hr : to_r O = r at *
  refine ⟨o1, o2, ?_, fun q hq => ?_, fun q i hq hi hrq => ?_, fun q i hq hqi hi => ?_⟩
  · rw [er]
    show nI r + 1 = nI (r + 1)
    exact nI_1 r
  · rw [er] at hq
    by_cases hqr : q = r
    · subst hqr
      have n1 : to_rc (newRow O c len) q = c := by unfold newRow; rw [hr]; exact va_s
      have n2 : to_rs (newRow O c len) q = len := by unfold newRow; rw [hr]; exact va_s
      have n3 : ∀ i, to_ri (newRow O c len) q i = -1 := by
        intro i
        unfold newRow; rw [hr]
        show va_up (to_ri O) q (fun _ => -1) q i = -1
        rw [va_s]
      rw [n1, n2]
      refine ⟨?_, ?_, fun i hi => ?_⟩
      · simp [qRow, gI_pI]
      · simp [qRow, gI_pI]
      · rw [n3]
        exact o5 q i (by omega) (by omega) (by omega)
    · have n1 : to_rc (newRow O c len) q = to_rc O q := by unfold newRow; rw [hr]; exact va_n hqr
      have n2 : to_rs (newRow O c len) q = to_rs O q := by unfold newRow; rw [hr]; exact va_n hqr
      have n3 : ∀ i, to_ri (newRow O c len) q i = to_ri O q i := by
        intro i
        unfold newRow; rw [hr]
        show va_up (to_ri O) r (fun _ => -1) q i = _
        rw [va_n hqr]
      rw [n1, n2]
      obtain ⟨a1, a2, a3⟩ := o4 q (by omega)
      refine ⟨?_, ?_, fun i hi => ?_⟩
      · rw [← a1]; simp [qRow, gI_pI, hqr]
      · rw [← a2]; simp [qRow, gI_pI, hqr]
      · rw [n3]
        exact a3 i hi
  · rw [er] at hrq
    exact o5 q i hq hi (by omega)
  · rw [er] at hq
    by_cases hqr : q = r
    · exact o5 q i (by omega) hi (by omega)
    · have n2 : to_rs (newRow O c len) q = to_rs O q := by unfold newRow; rw [hr]; exact va_n hqr
      rw [n2] at hqi
      exact o6 q i (by omega) hqi hi
theorem op_row {b : Nat} {S : lh_S} (n : Nat) (hn : 100 ≤ n) (h : SIM b S) (x y : Int32) : ∃ v S1 S2, f_X9_row n S 0 x y = some (v, S1) ∧ f_X10_row n S1 0 x y = some (v, S2) ∧ SIM b S2 := by
  obtain ⟨L, F, C, O, N, hX, hL, hF, hC, hO, hN, hS, qX, qL, qF, qC, qO, qN, hI, hb⟩ := id h
  have ht : SIM b (pvI S 10 0 0 0) := SIM_thrown h
  have h40 := hC.1
  have h20 := hO.2.2.2.1
  have e1 : gvI (pvI S 10 0 0 0) 10 0 17 = nI (tc_n C) := qC.1
  rcases ix2 x (n := tc_n C) (by omega) with hx | ⟨c, hc, rfl⟩
  · refine ⟨-2, S, pvI S 10 0 0 0, ?_, ?_, ht⟩
    · unfold f_X9_row
      rw [dc_nn_e (cx_r93 hX), ev_classAt_f n hC hx, dc_bd_s, dc_if_p rfl]
    · unfold f_X10_row
      rw [dc_let_q, qv_isClass_f n e1 hx (by omega), dc_bd_s, dc_if_p rfl]
  rcases ix2 y (n := 9) (by omega) with hy | ⟨len, hlen, rfl⟩
  · refine ⟨-3, S, pvI S 10 0 0 0, ?_, ?_, ht⟩
    · unfold f_X9_row
      rw [dc_nn_e (cx_r93 hX), ev_classAt_t n hX hC hc, dc_bd_s, dc_if_n (fun q => by cases q)]
      by_cases h0 : y < 0
      · rw [dc_if_p h0]
      · rcases hy with hy | hy
        · exact absurd hy h0
        · rw [dc_if_n h0, dc_if_n]
          intro h2
          rw [Int32.le_iff_toInt_le, nI_toInt (by omega)] at hy
          rw [Int32.le_iff_toInt_le, show ((8 : Int32).toInt) = 8 from rfl] at h2
          omega
    · unfold f_X10_row
      rw [dc_let_q, qv_isClass_t n e1 hc (by omega), dc_bd_s, dc_if_n (by decide), in_kf n _ (k := 8) rfl hy (by omega), dc_bd_s, dc_if_p rfl]
  by_cases hfull : to_r O = 20
  · refine ⟨-5, S, pvI S 10 0 0 0, ?_, ?_, ht⟩
    · unfold f_X9_row
      rw [dc_nn_e (cx_r93 hX), ev_classAt_t n hX hC hc, dc_bd_s, dc_if_n (fun q => by cases q), dc_if_n (nI_pos (by omega)), dc_if_p (show nI len ≤ (8 : Int32) from nI_le (b := 8) (by omega) (by omega)), hO.2.2.2.2.2.1, hfull, dc_if_n (by decide)]
    · unfold f_X10_row
      rw [dc_let_q, qv_isClass_t n e1 hc (by omega), dc_bd_s, dc_if_n (by decide), in_kt n _ (k := 8) rfl (by omega) (by omega), dc_bd_s, dc_if_n (by decide), show gvI (pvI S 10 0 0 0) 10 0 38 = nI (to_r O) from qO.2.2.1, hfull, dc_if_p (by decide)]
  have hlt : to_r O < 20 := by omega
  have hc5 : gvN S 7 = to_r O := hO.2.2.2.2.1.1
  have hc20 : gvN S 20 = to_r O := hO.2.2.2.2.1.2
  have hc7 : gvI S 9 0 7 = nI (to_r O) := hO.2.2.2.2.2.1
  obtain ⟨S1, hS1⟩ : ∃ S1, S1 = sRow S (to_r O) c len := ⟨_, rfl⟩
  have hcc : f_X9_row n S 0 (nI c) (nI len) = some (nI (to_r O), S1) := by
    rw [hS1]
    unfold f_X9_row
    rw [dc_nn_e (cx_r93 hX), ev_classAt_t n hX hC hc, dc_bd_s, dc_if_n (fun q => by cases q), dc_if_n (nI_pos (by omega)), dc_if_p (show nI len ≤ (8 : Int32) from nI_le (b := 8) (by omega) (by omega)), hc7, dc_if_p (show nI (to_r O) < (20 : Int32) from nI_lt (b := 20) hlt (by omega)), dc_let_q, hc5]
    unfold f_X7_init
    have el := ev_X7_loop (S := pvR (pvN (pvR (pvN S 7 0) 7 (to_r O) 0 (some c)) 20 len) 7 (to_r O) 1 (some (to_r O))) (r := to_r O) (len := len) n (some c) gR_s (by
      show gvL (pvN (pvR (pvN S 7 0) 7 (to_r O) 0 (some c)) 20 len) 20 (to_r O) = len
      rw [gL_pN, show gvN (pvR (pvN S 7 0) 7 (to_r O) 0 (some c)) 20 = to_r O from hc20, if_pos ⟨rfl, rfl⟩]) (by omega) len n 0 (by omega) (by omega) (by omega)
    rw [fill_0] at el
    rw [dc_let_q, ix_c (by omega), dc_gd_n (by rintro (q | q); exact nI_pos (by omega) q; omega), dc_let_q, dc_let_q, show gvN (pvR (pvN S 7 0) 7 (to_r O) 0 (some c)) 20 = to_r O from hc20, show (0 : Int32) = nI 0 from rfl, el, dc_bd_s, dc_nn_e (cx_r96 hX), ix_c (by omega), dc_gd_n, dc_let_q, dc_let_q, dc_let_q]
    · show some (gvI S 9 0 7, pvI _ 9 0 7 (gvI S 9 0 7 + 1)) = _
      rw [hc7]
      rfl
    · rintro (q | q)
      · exact nI_pos (by omega) q
      · have q : gvL S 23 0 ≤ to_r O := q
        rw [cx_l23 hX] at q
        omega
  have k9 := k_X9_row hcc
  have qX1 : QX S1 := QX_9 k9 qX
  have qL1 := QL_9 k9 qL
  have qF1 := QF_9 k9 qF
  have qC1 := QC_9 k9 qC
  have qO1 := QO_9 k9 qO
  have qN1 := QN_9 k9 qN
  have e2 : gvI (pvI S1 10 0 0 0) 10 0 17 = nI (tc_n C) := qC1.1
  have e3 : gvI (pvI S1 10 0 0 0) 10 0 38 = nI (to_r O) := qO1.2.2.1
  refine ⟨nI (to_r O), S1, qRow (pvI S1 10 0 0 0) (to_r O) c len, hcc, ?_, ?_⟩
  · unfold f_X10_row
    have q1 : QX (pvI S1 10 0 0 0) := qX1
    have q2 : QX (pvI (pvI S1 10 0 0 0) 69 0 (to_r O) (nI c)) := qX1
    have g : ∀ S', QX S' → ∀ a, (a = 69 ∨ a = 70) → ¬ (nI (to_r O) < 0 ∨ gvL S' a 0 ≤ to_r O) := by
      intro S' hq a ha
      have : gvL S' a 0 = 20 := by
        rcases ha with rfl | rfl
        · exact ql_69 hq
        · exact ql_70 hq
      rw [this]
      rintro (q | q)
      · exact nI_pos (by omega) q
      · omega
    rw [dc_let_q, qv_isClass_t n e2 hc (by omega), dc_bd_s, dc_if_n (by decide), in_kt n _ (k := 8) rfl (by omega) (by omega), dc_bd_s, dc_if_n (by decide), e3, dc_if_n (show ¬ nI (to_r O) = (20 : Int32) from fun q => by have := (nI_eq (a := to_r O) (b := 20) (by omega) (by omega)).mp q; omega), dc_nn_e (qx_39 q1), ix_c (by omega), dc_gd_n (g _ q1 69 (by omega)), dc_let_q, show gvI (pvI (pvI S1 10 0 0 0) 69 0 (to_r O) (nI c)) 10 0 38 = nI (to_r O) from e3, ix_c (by omega), dc_nn_e (qx_40 q2), dc_gd_n (g _ q2 70 (by omega)), dc_let_q, show gvI (pvI (pvI (pvI S1 10 0 0 0) 69 0 (to_r O) (nI c)) 70 0 (to_r O) (nI len)) 10 0 38 = nI (to_r O) from e3, dc_let_q, dc_let_q, gI_s, dc_let_q, nI_1, nI_pred]
    unfold qRow
    rw [nI_1]
  · have a4 := QO_row (T := pvI S1 10 0 0 0) (c := c) (len := len) qO1 hlt (by omega)
    have a6 := CO_row (c := c) (len := len) hO hlt (by omega)
    rw [← hS1] at a6
    have c1 : CX S1 := by rw [hS1]; exact hX
    have c2 : CL S1 L := by rw [hS1]; exact hL
    have c3 : CF S1 F := by rw [hS1]; exact hF
    have c4 : CC S1 C := by rw [hS1]; exact hC
    have c5 : CN S1 N := by rw [hS1]; exact hN
    have c6 : CS S1 := by rw [hS1]; exact hS
    refine ⟨L, F, C, newRow O c len, N, c1, c2, c3, c4, a6, c5, c6, qX1, qL1, qF1, qC1, a4, qN1, ?_, hb⟩
    obtain ⟨i1, i2, i3, i4, i5, i6, i7, i8, i9⟩ := hI
    refine ⟨i1, i2, i3, i4, i5, i6, i7, i8, fun q hq => ?_⟩
    have hq : q < to_r O + 1 := hq
    show va_up (to_rc O) (to_r O) c q < tc_n C
    by_cases hqr : q = to_r O
    · subst hqr
      rw [va_s]
      exact hc
    · rw [va_n hqr]
      exact i9 q (by omega)
