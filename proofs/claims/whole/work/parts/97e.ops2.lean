theorem op_told {b : Nat} {S : lh_S} (n : Nat) (h : SIM b S) (x : Int32) : ∃ v S1 S2, f_X9_told n S 0 x = some (v, S1) ∧ f_X10_told n S1 0 x = some (v, S2) ∧ SIM b S2 := by
  obtain ⟨L, F, C, O, N, hX, hL, hF, hC, hO, hN, hS, qX, qL, qF, qC, qO, qN, hI, hb⟩ := id h
  have ht : SIM b (pvI S 10 0 0 0) := SIM_thrown h
  unfold f_X9_told f_X10_told
  by_cases h0 : x = 0
  · refine ⟨nI (tl_n L), S, _, ?_, ?_, ht⟩
    · rw [dc_if_p h0, dc_nn_e (cx_r92 hX), hL.2.2.2.1]
    · rw [dc_let_q, dc_if_p h0, show gvI (pvI S 10 0 0 0) 10 0 10 = nI (tl_n L) from qL.1]
  by_cases h1 : x = 1
  · refine ⟨nI (tf_n F), S, _, ?_, ?_, ht⟩
    · rw [dc_if_n h0, dc_if_p h1, hF.2.2.1]
    · rw [dc_let_q, dc_if_n h0, dc_if_p h1, show gvI (pvI S 10 0 0 0) 10 0 1 = nI (tf_n F) from qF.1]
  by_cases h2 : x = 2
  · refine ⟨nI (tc_n C), S, _, ?_, ?_, ht⟩
    · rw [dc_if_n h0, dc_if_n h1, dc_if_p h2, dc_nn_e (cx_r93 hX), hC.2.2.1]
    · rw [dc_let_q, dc_if_n h0, dc_if_n h1, dc_if_p h2, show gvI (pvI S 10 0 0 0) 10 0 17 = nI (tc_n C) from qC.1]
  by_cases h3 : x = 3
  · refine ⟨nI (to_n O), S, _, ?_, ?_, ht⟩
    · rw [dc_if_n h0, dc_if_n h1, dc_if_n h2, dc_if_p h3, hO.2.1]
    · rw [dc_let_q, dc_if_n h0, dc_if_n h1, dc_if_n h2, dc_if_p h3, show gvI (pvI S 10 0 0 0) 10 0 36 = nI (to_n O) from qO.1]
  by_cases h4 : x = 4
  · refine ⟨nI (to_r O), S, _, ?_, ?_, ht⟩
    · rw [dc_if_n h0, dc_if_n h1, dc_if_n h2, dc_if_n h3, dc_if_p h4, hO.2.2.2.2.2.1]
    · rw [dc_let_q, dc_if_n h0, dc_if_n h1, dc_if_n h2, dc_if_n h3, dc_if_p h4, show gvI (pvI S 10 0 0 0) 10 0 38 = nI (to_r O) from qO.2.2.1]
  by_cases h5 : x = 5
  · refine ⟨nI (tn_ld N), S, _, ?_, ?_, ht⟩
    · rw [dc_if_n h0, dc_if_n h1, dc_if_n h2, dc_if_n h3, dc_if_n h4, dc_if_p h5, dc_nn_e (cx_r93 hX), dc_nn_e (cx_r41 hX), hN.1]
    · rw [dc_let_q, dc_if_n h0, dc_if_n h1, dc_if_n h2, dc_if_n h3, dc_if_n h4, dc_if_p h5, show gvI (pvI S 10 0 0 0) 10 0 25 = nI (tn_ld N) from qN.1]
  by_cases h6 : x = 6
  · refine ⟨tn_lf N, S, _, ?_, ?_, ht⟩
    · rw [dc_if_n h0, dc_if_n h1, dc_if_n h2, dc_if_n h3, dc_if_n h4, dc_if_n h5, dc_if_p h6, hN.2.2.2.2]
    · rw [dc_let_q, dc_if_n h0, dc_if_n h1, dc_if_n h2, dc_if_n h3, dc_if_n h4, dc_if_n h5, dc_if_p h6, show gvI (pvI S 10 0 0 0) 10 0 24 = tn_lf N from qN.2.2]
  · refine ⟨-3, S, _, ?_, ?_, ht⟩
    · rw [dc_if_n h0, dc_if_n h1, dc_if_n h2, dc_if_n h3, dc_if_n h4, dc_if_n h5, dc_if_n h6]
    · rw [dc_let_q, dc_if_n h0, dc_if_n h1, dc_if_n h2, dc_if_n h3, dc_if_n h4, dc_if_n h5, dc_if_n h6]
theorem op_about {b : Nat} {S : lh_S} (n : Nat) (h : SIM b S) (x y : Int32) : ∃ v S1 S2, f_X9_about n S 0 x y = some (v, S1) ∧ f_X10_about n S1 0 x y = some (v, S2) ∧ SIM b S2 := by
  obtain ⟨L, F, C, O, N, hX, hL, hF, hC, hO, hN, hS, qX, qL, qF, qC, qO, qN, hI, hb⟩ := id h
  have ht : SIM b (pvI S 10 0 0 0) := SIM_thrown h
  have h40 := hC.1
  have e1 : gvI (pvI S 10 0 0 0) 10 0 17 = nI (tc_n C) := qC.1
  unfold f_X9_about f_X10_about
  rcases ix2 x (n := tc_n C) (by omega) with hx | ⟨c, hc, rfl⟩
  · refine ⟨-2, S, _, ?_, ?_, ht⟩
    · rw [dc_nn_e (cx_r93 hX), ev_classAt_f n hC hx, dc_bd_s, dc_if_p rfl]
    · rw [dc_let_q, qv_isClass_f n e1 hx (by omega), dc_bd_s, dc_if_p rfl]
  · obtain ⟨a1, a2, a3, a4, a5, a6⟩ := hC.2.2.2.2 c hc
    obtain ⟨b1, b2, b3, b4, b5, b6⟩ := qC.2.1 c hc
    obtain ⟨i1, i2, i3, i4⟩ := hI.2.2.2.2.2.2.1 c hc
    have f1 := hF.2.2.2.2.1 (tc_fl C c) i2
    have hi : ∀ {k : Nat}, gvL S k 0 = 40 → ¬ (nI c < 0 ∨ gvL (pvI S 10 0 0 0) k 0 ≤ (nI c).toNatClampNeg) := fun {k} hk => by rw [show gvL (pvI S 10 0 0 0) k 0 = 40 from hk]; exact ix_in (by omega) (by omega)
    have hc1 : f_X4_classAt n S 0 (nI c) = some (some c, S) := ev_classAt_t n hX hC hc
    have hc2 : f_X10_isClass n (pvI S 10 0 0 0) 0 (nI c) = some (1, pvI S 10 0 0 0) := qv_isClass_t n e1 hc (by omega)
    by_cases h0 : y = 0
    · refine ⟨nI (tf_nm F (tc_fl C c)), S, _, ?_, ?_, ht⟩
      · rw [dc_nn_e (cx_r93 hX), hc1, dc_bd_s, dc_if_n (fun q => by cases q), dc_if_p h0, dc_nn_s, dc_nn_e a3, f1.2.1]
      · rw [dc_let_q, hc2, dc_bd_s, dc_if_n (by decide), dc_if_p h0, dc_nn_e (show gvR (pvI S 10 0 0 0) 10 0 18 = some 0 from qx_18 qX), dc_gd_n (hi (ql_48 qX)), ix_c (by omega), show gvI (pvI S 10 0 0 0) 48 0 c = _ from b1]
    by_cases h1 : y = 1
    · refine ⟨nI (tc_ld C c), S, _, ?_, ?_, ht⟩
      · rw [dc_nn_e (cx_r93 hX), hc1, dc_bd_s, dc_if_n (fun q => by cases q), dc_if_n h0, dc_if_p h1, dc_nn_s, dc_nn_e a2, (hL.2.2.2.2.2.1 _ i1).1]
      · rw [dc_let_q, hc2, dc_bd_s, dc_if_n (by decide), dc_if_n h0, dc_if_p h1, dc_nn_e (show gvR (pvI S 10 0 0 0) 10 0 19 = some 0 from qx_19 qX), dc_gd_n (hi (ql_49 qX)), ix_c (by omega), show gvI (pvI S 10 0 0 0) 49 0 c = _ from b2]
    by_cases h2 : y = 2
    · refine ⟨nI (oc (tc_ab C c)) - 1, S, _, ?_, ?_, ht⟩
      · rw [dc_nn_e (cx_r93 hX), hc1, dc_bd_s, dc_if_n (fun q => by cases q), dc_if_n h0, dc_if_n h1, dc_if_p h2, dc_nn_s, a4, ev_numberOf n hC (fun a ha => Nat.lt_trans (i4 a ha) hc), dc_bd_s]
      · rw [dc_let_q, hc2, dc_bd_s, dc_if_n (by decide), dc_if_n h0, dc_if_n h1, dc_if_p h2, dc_nn_e (show gvR (pvI S 10 0 0 0) 10 0 21 = some 0 from qx_21 qX), dc_gd_n (hi (ql_51 qX)), ix_c (by omega), show gvI (pvI S 10 0 0 0) 51 0 c = _ from b4]
    by_cases h3 : y = 3
    · refine ⟨nI (tc_fl C c), S, _, ?_, ?_, ht⟩
      · rw [dc_nn_e (cx_r93 hX), hc1, dc_bd_s, dc_if_n (fun q => by cases q), dc_if_n h0, dc_if_n h1, dc_if_n h2, dc_if_p h3, dc_nn_s, dc_nn_e a3, f1.1]
      · rw [dc_let_q, hc2, dc_bd_s, dc_if_n (by decide), dc_if_n h0, dc_if_n h1, dc_if_n h2, dc_if_p h3, dc_nn_e (show gvR (pvI S 10 0 0 0) 10 0 20 = some 0 from qx_20 qX), dc_gd_n (hi (ql_50 qX)), ix_c (by omega), show gvI (pvI S 10 0 0 0) 50 0 c = _ from b3]
    by_cases h4 : y = 4
    · refine ⟨nI (tc_st C c), S, _, ?_, ?_, ht⟩
      · rw [dc_nn_e (cx_r93 hX), hc1, dc_bd_s, dc_if_n (fun q => by cases q), dc_if_n h0, dc_if_n h1, dc_if_n h2, dc_if_n h3, dc_if_p h4, dc_nn_s, a5]
      · rw [dc_let_q, hc2, dc_bd_s, dc_if_n (by decide), dc_if_n h0, dc_if_n h1, dc_if_n h2, dc_if_n h3, dc_if_p h4, dc_nn_e (show gvR (pvI S 10 0 0 0) 10 0 22 = some 0 from qx_22 qX), dc_gd_n (hi (ql_52 qX)), ix_c (by omega), show gvI (pvI S 10 0 0 0) 52 0 c = _ from b5]
    · refine ⟨-3, S, _, ?_, ?_, ht⟩
      · rw [dc_nn_e (cx_r93 hX), hc1, dc_bd_s, dc_if_n (fun q => by cases q), dc_if_n h0, dc_if_n h1, dc_if_n h2, dc_if_n h3, dc_if_n h4]
      · rw [dc_let_q, hc2, dc_bd_s, dc_if_n (by decide), dc_if_n h0, dc_if_n h1, dc_if_n h2, dc_if_n h3, dc_if_n h4]
theorem op_apart {b : Nat} {S : lh_S} (n : Nat) (h : SIM b S) (x y : Int32) : ∃ v S1 S2, f_X9_apart n S 0 x y = some (v, S1) ∧ f_X10_apart n S1 0 x y = some (v, S2) ∧ SIM b S2 := by
  obtain ⟨L, F, C, O, N, hX, hL, hF, hC, hO, hN, hS, qX, qL, qF, qC, qO, qN, hI, hb⟩ := id h
  have ht : SIM b (pvI S 10 0 0 0) := SIM_thrown h
  have h40 := hC.1
  have e1 : gvI (pvI S 10 0 0 0) 10 0 17 = nI (tc_n C) := qC.1
  unfold f_X9_apart f_X10_apart
  rcases ix2 x (n := tc_n C) (by omega) with hx | ⟨c, hc, rfl⟩
  · rcases ix2 y (n := tc_n C) (by omega) with hy | ⟨d, hd, rfl⟩
    · refine ⟨-2, S, _, ?_, ?_, ht⟩
      · rw [dc_nn_e (cx_r93 hX), ev_classAt_f n hC hx, dc_bd_s, dc_nn_e (cx_r93 hX), ev_classAt_f n hC hy, dc_bd_s, dc_if_p rfl]
      · rw [dc_let_q, qv_isClass_f n e1 hx (by omega), dc_bd_s, dc_if_p rfl]
    · refine ⟨-2, S, _, ?_, ?_, ht⟩
      · rw [dc_nn_e (cx_r93 hX), ev_classAt_f n hC hx, dc_bd_s, dc_nn_e (cx_r93 hX), ev_classAt_t n hX hC hd, dc_bd_s, dc_if_p rfl]
      · rw [dc_let_q, qv_isClass_f n e1 hx (by omega), dc_bd_s, dc_if_p rfl]
  · have hc1 : f_X4_classAt n S 0 (nI c) = some (some c, S) := ev_classAt_t n hX hC hc
    have hc2 : f_X10_isClass n (pvI S 10 0 0 0) 0 (nI c) = some (1, pvI S 10 0 0 0) := qv_isClass_t n e1 hc (by omega)
    rcases ix2 y (n := tc_n C) (by omega) with hy | ⟨d, hd, rfl⟩
    · refine ⟨-2, S, _, ?_, ?_, ht⟩
      · rw [dc_nn_e (cx_r93 hX), hc1, dc_bd_s, dc_nn_e (cx_r93 hX), ev_classAt_f n hC hy, dc_bd_s, dc_if_n (fun q => by cases q), dc_if_p rfl]
      · rw [dc_let_q, hc2, dc_bd_s, dc_if_n (by decide), qv_isClass_f n e1 hy (by omega), dc_bd_s, dc_if_p rfl]
    · have hd1 : f_X4_classAt n S 0 (nI d) = some (some d, S) := ev_classAt_t n hX hC hd
      have hd2 : f_X10_isClass n (pvI S 10 0 0 0) 0 (nI d) = some (1, pvI S 10 0 0 0) := qv_isClass_t n e1 hd (by omega)
      by_cases hcd : c = d
      · subst hcd
        refine ⟨0, S, _, ?_, ?_, ht⟩
        · rw [dc_nn_e (cx_r93 hX), hc1, dc_bd_s, dc_nn_e (cx_r93 hX), hc1, dc_bd_s, dc_if_n (fun q => by cases q), dc_if_n (fun q => by cases q), dc_if_p rfl]
        · rw [dc_let_q, hc2, dc_bd_s, dc_if_n (by decide), hc2, dc_bd_s, dc_if_n (by decide), dc_if_p rfl]
      · have n1 := (hF.2.2.2.2.1 _ (hI.2.2.2.2.2.2.1 c hc).2.1).2.1
        have n2 := (hF.2.2.2.2.1 _ (hI.2.2.2.2.2.2.1 d hd).2.1).2.1
        have hi : ∀ {j : Nat}, j < 40 → ¬ (nI j < 0 ∨ gvL (pvI S 10 0 0 0) 48 0 ≤ (nI j).toNatClampNeg) := fun {j} hj => by rw [show gvL (pvI S 10 0 0 0) 48 0 = 40 from ql_48 qX]; exact ix_in hj (by omega)
        refine ⟨if nI (tf_nm F (tc_fl C c)) = nI (tf_nm F (tc_fl C d)) then 1 else 0, S, pvI S 10 0 0 0, ?_, ?_, ht⟩
        · rw [dc_nn_e (cx_r93 hX), hc1, dc_bd_s, dc_nn_e (cx_r93 hX), hd1, dc_bd_s, dc_if_n (fun q => by cases q), dc_if_n (fun q => by cases q), dc_if_n (fun q => hcd (Option.some.inj q)), dc_nn_s, dc_nn_e (hC.2.2.2.2 c hc).2.2.1, dc_nn_s, dc_nn_e (hC.2.2.2.2 d hd).2.2.1, n1, n2]
          by_cases he : nI (tf_nm F (tc_fl C c)) = nI (tf_nm F (tc_fl C d))
          · rw [dc_if_p he, if_pos he]
          · rw [dc_if_n he, if_neg he]
        · rw [dc_let_q, hc2, dc_bd_s, dc_if_n (by decide), hd2, dc_bd_s, dc_if_n (by decide), dc_if_n (fun q => hcd ((nI_eq (by omega) (by omega)).mp q)), dc_nn_e (show gvR (pvI S 10 0 0 0) 10 0 18 = some 0 from qx_18 qX), dc_gd_n (hi (by omega)), dc_gd_n (hi (by omega)), ix_c (by omega), ix_c (by omega), show gvI (pvI S 10 0 0 0) 48 0 c = _ from (qC.2.1 c hc).1, show gvI (pvI S 10 0 0 0) 48 0 d = _ from (qC.2.1 d hd).1]
          by_cases he : nI (tf_nm F (tc_fl C c)) = nI (tf_nm F (tc_fl C d))
          · rw [dc_if_p he, if_pos he]
          · rw [dc_if_n he, if_neg he]
