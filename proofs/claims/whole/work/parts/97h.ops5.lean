theorem put_sim {b : Nat} {S : lh_S} {q i : Nat} {z : Int32} {O : GO} (h : SIM b S) (hO : CO S O) (qO : QO S O) (hq : q < to_r O) (hi : i < to_rs O q) : SIM b (pvI (pvI (pvI S 20 q i z) 10 0 0 0) 71 0 (8 * q + i) (z + 1)) := by
  obtain ⟨L, F, C, O2, N, hX, hL, hF, hC, hO2, hN, hS, qX, qL, qF, qC, qO2, qN, hI, hb⟩ := h
  have h8 := (hO.2.2.2.2.2.2 q hq).2.2.2.2.1
  have inj : ∀ {a b : Nat}, a ≤ 100 → b ≤ 100 → nI a = nI b → a = b := fun h1 h2 h3 => (nI_eq (by omega) (by omega)).mp h3
  have en : to_n O2 = to_n O := inj (by have := hO2.1; omega) (by have := hO.1; omega) (hO2.2.1.symm.trans hO.2.1)
  have er : to_r O2 = to_r O := inj (by have := hO2.2.2.2.1; omega) (by have := hO.2.2.2.1; omega) (hO2.2.2.2.2.2.1.symm.trans hO.2.2.2.2.2.1)
  have eq' : q < to_r O2 := by rw [er]; exact hq
  have es : to_rs O2 q = to_rs O q := ((hO2.2.2.2.2.2.2 q eq').2.2.2.1).symm.trans (hO.2.2.2.2.2.2 q hq).2.2.2.1
  have hi2 : i < to_rs O2 q := by rw [es]; exact hi
  refine ⟨L, F, C, (to_n O2, to_cl O2, to_r O2, to_rc O2, to_rs O2, lh_u2 (to_ri O2) q i z), N, hX, hL, hF, hC, ?_, hN, hS, qX, qL, qF, qC, ?_, qN, hI, hb⟩
  · refine ⟨hO2.1, hO2.2.1, hO2.2.2.1, hO2.2.2.2.1, hO2.2.2.2.2.1, hO2.2.2.2.2.2.1, fun k hk => ?_⟩
    obtain ⟨a1, a2, a3, a4, a5, a6⟩ := hO2.2.2.2.2.2.2 k hk
    refine ⟨a1, a2, a3, a4, a5, fun j hj => ?_⟩
    show gvI (pvI S 20 q i z) 20 k j = lh_u2 (to_ri O2) q i z k j
    by_cases hz : k = q ∧ j = i
    · obtain ⟨rfl, rfl⟩ := hz
      rw [gI_s, u2_s]
    · rw [u2_n hz, gI_pI, if_neg (fun w => hz w.2)]
      exact a6 j hj
  · refine ⟨qO2.1, qO2.2.1, qO2.2.2.1, fun k hk => ?_, fun k j hk hj hr => ?_, fun k j hk hj hj8 => ?_⟩
    · obtain ⟨b1, b2, b3⟩ := qO2.2.2.2.1 k hk
      have k20 : k < 20 := by have := hO2.2.2.2.1; have h9 : k < to_r O2 := hk; omega
      refine ⟨b1, b2, fun j hj => ?_⟩
      have hj : j < to_rs O2 k := hj
      have hk8 := (hO2.2.2.2.2.2.2 k hk).2.2.2.2.1
      show gvI (pvI (pvI (pvI S 20 q i z) 10 0 0 0) 71 0 (8 * q + i) (z + 1)) 71 0 (8 * k + j) = lh_u2 (to_ri O2) q i z k j + 1
      by_cases hz : k = q ∧ j = i
      · obtain ⟨rfl, rfl⟩ := hz
        rw [gI_s, u2_s]
      · rw [u2_n hz, gI_q (by omega)]
        exact b3 j hj
    · have hr : to_r O2 ≤ k := hr
      show gvI (pvI (pvI (pvI S 20 q i z) 10 0 0 0) 71 0 (8 * q + i) (z + 1)) 71 0 (8 * k + j) = 0
      rw [gI_q (by omega)]
      exact qO2.2.2.2.2.1 k j hk hj hr
    · have hj : to_rs O2 k ≤ j := hj
      have hk8 := (hO2.2.2.2.2.2.2 k hk).2.2.2.2.1
      show gvI (pvI (pvI (pvI S 20 q i z) 10 0 0 0) 71 0 (8 * q + i) (z + 1)) 71 0 (8 * k + j) = 0
      have hne : ¬ (k = q ∧ j = i) := fun w => by obtain ⟨rfl, rfl⟩ := w; omega
      rw [gI_q (by omega)]
      exact qO2.2.2.2.2.2 k j hk hj hj8
theorem op_put {b : Nat} {S : lh_S} (n : Nat) (hn : 100 ≤ n) (h : SIM b S) (x y z : Int32) : ∃ v S1 S2, f_X9_put n S 0 x y z = some (v, S1) ∧ f_X10_put n S1 0 x y z = some (v, S2) ∧ SIM b S2 := by
  obtain ⟨L, F, C, O, N, hX, hL, hF, hC, hO, hN, hS, qX, qL, qF, qC, qO, qN, hI, hb⟩ := id h
  have ht : SIM b (pvI S 10 0 0 0) := SIM_thrown h
  have h20 := hO.2.2.2.1
  have h60 := hO.1
  have h40 := hC.1
  have e2 : gvI (pvI S 10 0 0 0) 10 0 38 = nI (to_r O) := qO.2.2.1
  have e3 : gvI (pvI S 10 0 0 0) 10 0 36 = nI (to_n O) := qO.1
  rcases ix2 x (n := to_r O) (by omega) with hx | ⟨q, hq, rfl⟩
  · refine ⟨-2, S, pvI S 10 0 0 0, ?_, ?_, ht⟩
    · unfold f_X9_put
      rcases ix2 z (n := to_n O) (by omega) with hz | ⟨o, ho, rfl⟩
      · rw [ev_rowAt_f n hO hx, dc_bd_s, ev_classOfObject_f n hO hz, dc_bd_s, dc_if_p rfl]
      · rw [ev_rowAt_f n hO hx, dc_bd_s, ev_classOfObject_t n hX hO ho, dc_bd_s, dc_if_p rfl]
    · unfold f_X10_put
      rw [dc_let_q, qv_isRow_f n e2 hx (by omega), dc_bd_s, dc_if_p rfl]
  obtain ⟨a1, a2, a3, a4, a5, a6⟩ := hO.2.2.2.2.2.2 q hq
  obtain ⟨b1, b2, b3⟩ := qO.2.2.2.1 q hq
  have lrs : ∀ S', QX S' → ¬ (nI q < 0 ∨ gvL S' 70 0 ≤ (nI q).toNatClampNeg) := fun S' hq' => by rw [ql_70 hq']; exact ix_in (by omega) (by omega)
  have lrc : ∀ S', QX S' → ¬ (nI q < 0 ∨ gvL S' 69 0 ≤ (nI q).toNatClampNeg) := fun S' hq' => by rw [ql_69 hq']; exact ix_in (by omega) (by omega)
  have lrc2 : ∀ S', QX S' → ¬ (nI q < 0 ∨ gvL S' 69 0 ≤ q) := fun S' hq' => by
    have := lrc S' hq'
    rw [ix_c (by omega)] at this
    exact this
  rcases ix2 z (n := to_n O) (by omega) with hz | ⟨o, ho, rfl⟩
  · by_cases hz1 : z = -1
    · subst hz1
      have cz := ev_classOfObject_f (x := -1) n hO hz
      rcases ix2 y (n := to_rs O q) (by omega) with hy | ⟨i, hi, rfl⟩
      · have e4 : gvI (pvI (pvI S 9 0 9 11) 10 0 0 0) 10 0 38 = nI (to_r O) := qO.2.2.1
        refine ⟨-10 - 11, pvI S 9 0 9 11, pvI (pvI (pvI S 9 0 9 11) 10 0 0 0) 10 0 24 11, ?_, ?_, SIM_fail h⟩
        · unfold f_X9_put
          rw [ev_rowAt_t n hX hO hq, dc_bd_s, cz, dc_bd_s, dc_if_n (fun q => by cases q), dc_if_p rfl, dc_if_p rfl, dc_nn_s, ev_hasPlace_f n hO hq hy, dc_bd_s, dc_if_p rfl, show f_X9_failed n S 11 = some (-10 - 11, S) from rfl, dc_bd_s, ev_answ n (by decide) (by decide), dc_bd_s]
        · unfold f_X10_put
          rw [dc_let_q, qv_isRow_t n e4 hq (by omega), dc_bd_s, dc_if_n (by decide), dc_if_p rfl, dc_nn_e (show gvR (pvI (pvI S 9 0 9 11) 10 0 0 0) 10 0 40 = some 0 from qx_40 qX), dc_gd_n (lrs (pvI (pvI S 9 0 9 11) 10 0 0 0) qX), ix_c (by omega), show gvI (pvI (pvI S 9 0 9 11) 10 0 0 0) 70 0 q = _ from b2, dc_let_q, in_cf n _ hy (by omega), dc_bd_s, dc_if_p rfl]
          rfl
      · refine ⟨1, pvI S 20 q i (-1), pvI (pvI (pvI S 20 q i (-1)) 10 0 0 0) 71 0 (8 * q + i) (-1 + 1), ?_, ?_, put_sim h hO qO hq hi⟩
        · unfold f_X9_put
          rw [ev_rowAt_t n hX hO hq, dc_bd_s, cz, dc_bd_s, dc_if_n (fun q => by cases q), dc_if_p rfl, dc_if_p rfl, dc_nn_s, ev_hasPlace_t n hO hq hi, dc_bd_s, dc_if_n (by decide), dc_if_p rfl, dc_nn_e a3, dc_gd_n (by rw [a4]; exact ix_in hi (by omega)), ix_c (by omega), dc_let_q]
        · unfold f_X10_put
          have e4 : gvI (pvI (pvI S 20 q i (-1)) 10 0 0 0) 10 0 38 = nI (to_r O) := qO.2.2.1
          rw [dc_let_q, qv_isRow_t n e4 hq (by omega), dc_bd_s, dc_if_n (by decide), dc_if_p rfl, dc_nn_e (show gvR (pvI (pvI S 20 q i (-1)) 10 0 0 0) 10 0 40 = some 0 from qx_40 qX), dc_gd_n (lrs (pvI (pvI S 20 q i (-1)) 10 0 0 0) qX), ix_c (by omega), show gvI (pvI (pvI S 20 q i (-1)) 10 0 0 0) 70 0 q = _ from b2, dc_let_q, in_ct n _ hi (by omega), dc_bd_s, dc_if_n (by decide), dc_if_p (by decide), dc_nn_e (show gvR (pvI (pvI S 20 q i (-1)) 10 0 0 0) 10 0 41 = some 0 from qx_41 qX), at8, dc_gd_n (by rw [show gvL (pvI (pvI S 20 q i (-1)) 10 0 0 0) 71 0 = 160 from ql_71 qX]; exact ix_in (by omega) (by omega)), ix_c (by omega), dc_let_q]
    · refine ⟨-2, S, pvI S 10 0 0 0, ?_, ?_, ht⟩
      · unfold f_X9_put
        rw [ev_rowAt_t n hX hO hq, dc_bd_s, ev_classOfObject_f n hO hz, dc_bd_s, dc_if_n (fun q => by cases q), dc_if_p rfl, dc_if_n hz1]
      · unfold f_X10_put
        rw [dc_let_q, qv_isRow_t n e2 hq (by omega), dc_bd_s, dc_if_n (by decide), dc_if_n hz1, qv_isObject_f n e3 hz (by omega), dc_bd_s, dc_if_p rfl]
  · have hoc := hI.2.2.2.2.2.2.2.1 o ho
    have hrc := hI.2.2.2.2.2.2.2.2 q hq
    have hz1 : ¬ nI o = (-1 : Int32) := fun w => by
      have := congrArg Int32.toInt w
      rw [nI_toInt (by omega), show ((-1 : Int32).toInt) = -1 from rfl] at this
      omega
    have hab := fun c hc => (hI.2.2.2.2.2.2.1 c hc).2.2.2
    have k1 : f_X5_isOf n S (to_cl O o) (some (to_rc O q)) = some (if ofF (tc_ab C) 40 (to_cl O o) (to_rc O q) then 1 else 0, S) := cl_isOf hC hab n _ _ 40 _ n (by omega) hoc (by omega)
    have k2 : ∀ S', QX S' → QC S' C F → f_X10_isOf n S' 0 (nI (to_cl O o)) (nI (to_rc O q)) = some (if ofF (tc_ab C) 40 (to_cl O o) (to_rc O q) then 1 else 0, S') := fun S' q1 q2 => rf_isOf q1 q2 h40 hab n _ _ (by omega) 40 _ n (by omega) hoc (by omega)
    have loc : ∀ S', QX S' → ¬ (nI o < 0 ∨ gvL S' 67 0 ≤ (nI o).toNatClampNeg) := fun S' hq' => by rw [ql_67 hq']; exact ix_in (by omega) (by omega)
    have co := ev_classOfObject_t n hX hO ho
    rcases ix2 y (n := to_rs O q) (by omega) with hy | ⟨i, hi, rfl⟩
    · have e4 : gvI (pvI (pvI S 9 0 9 11) 10 0 0 0) 10 0 38 = nI (to_r O) := qO.2.2.1
      have e5 : gvI (pvI (pvI S 9 0 9 11) 10 0 0 0) 10 0 36 = nI (to_n O) := qO.1
      refine ⟨-10 - 11, pvI S 9 0 9 11, pvI (pvI (pvI S 9 0 9 11) 10 0 0 0) 10 0 24 11, ?_, ?_, SIM_fail h⟩
      · unfold f_X9_put
        rw [ev_rowAt_t n hX hO hq, dc_bd_s, co, dc_bd_s, dc_if_n (fun q => by cases q), dc_if_n (fun q => by cases q), dc_nn_s, ev_hasPlace_f n hO hq hy, dc_bd_s, dc_if_p rfl, show f_X9_failed n S 11 = some (-10 - 11, S) from rfl, dc_bd_s, ev_answ n (by decide) (by decide), dc_bd_s]
      · unfold f_X10_put
        rw [dc_let_q, qv_isRow_t n e4 hq (by omega), dc_bd_s, dc_if_n (by decide), dc_if_n hz1, qv_isObject_t n e5 ho (by omega), dc_bd_s, dc_if_n (by decide), dc_nn_e (show gvR (pvI (pvI S 9 0 9 11) 10 0 0 0) 10 0 40 = some 0 from qx_40 qX), dc_gd_n (lrs (pvI (pvI S 9 0 9 11) 10 0 0 0) qX), ix_c (by omega), show gvI (pvI (pvI S 9 0 9 11) 10 0 0 0) 70 0 q = _ from b2, dc_let_q, in_cf n _ hy (by omega), dc_bd_s, dc_if_p rfl]
        rfl
    · cases hof : ofF (tc_ab C) 40 (to_cl O o) (to_rc O q) with
      | true =>
        rw [hof] at k1 k2
        refine ⟨1, pvI S 20 q i (nI o), pvI (pvI (pvI S 20 q i (nI o)) 10 0 0 0) 71 0 (8 * q + i) (nI o + 1), ?_, ?_, put_sim h hO qO hq hi⟩
        · unfold f_X9_put
          rw [ev_rowAt_t n hX hO hq, dc_bd_s, co, dc_bd_s, dc_if_n (fun q => by cases q), dc_if_n (fun q => by cases q), dc_nn_s, ev_hasPlace_t n hO hq hi, dc_bd_s, dc_if_n (by decide), dc_if_n (fun q => by cases q), dc_nn_s, a2, k1, dc_bd_s, dc_if_n (by decide), dc_nn_e a3, dc_gd_n (by rw [a4]; exact ix_in hi (by omega)), ix_c (by omega), dc_let_q]
        · unfold f_X10_put
          have e4 : gvI (pvI (pvI S 20 q i (nI o)) 10 0 0 0) 10 0 38 = nI (to_r O) := qO.2.2.1
          have e5 : gvI (pvI (pvI S 20 q i (nI o)) 10 0 0 0) 10 0 36 = nI (to_n O) := qO.1
          rw [dc_let_q, qv_isRow_t n e4 hq (by omega), dc_bd_s, dc_if_n (by decide), dc_if_n hz1, qv_isObject_t n e5 ho (by omega), dc_bd_s, dc_if_n (by decide), dc_nn_e (show gvR (pvI (pvI S 20 q i (nI o)) 10 0 0 0) 10 0 40 = some 0 from qx_40 qX), dc_gd_n (lrs (pvI (pvI S 20 q i (nI o)) 10 0 0 0) qX), ix_c (by omega), show gvI (pvI (pvI S 20 q i (nI o)) 10 0 0 0) 70 0 q = _ from b2, dc_let_q, in_ct n _ hi (by omega), dc_bd_s, dc_if_n (by decide), dc_if_n (nI_pos (by omega)), dc_nn_e (show gvR (pvI (pvI S 20 q i (nI o)) 10 0 0 0) 10 0 37 = some 0 from qx_37 qX), dc_gd_n (loc (pvI (pvI S 20 q i (nI o)) 10 0 0 0) qX), dc_nn_e (show gvR (pvI (pvI S 20 q i (nI o)) 10 0 0 0) 10 0 39 = some 0 from qx_39 qX), dc_gd_n (lrc2 (pvI (pvI S 20 q i (nI o)) 10 0 0 0) qX), ix_c (by omega), show gvI (pvI (pvI S 20 q i (nI o)) 10 0 0 0) 67 0 o = _ from qO.2.1 o ho, show gvI (pvI (pvI S 20 q i (nI o)) 10 0 0 0) 69 0 q = _ from b1, k2 (pvI (pvI S 20 q i (nI o)) 10 0 0 0) qX qC, dc_bd_s, dc_if_n (by decide), dc_nn_e (show gvR (pvI (pvI S 20 q i (nI o)) 10 0 0 0) 10 0 41 = some 0 from qx_41 qX), at8, dc_gd_n (by rw [show gvL (pvI (pvI S 20 q i (nI o)) 10 0 0 0) 71 0 = 160 from ql_71 qX]; exact ix_in (by omega) (by omega)), ix_c (by omega), dc_let_q]
      | false =>
        rw [hof] at k1 k2
        have e4 : gvI (pvI (pvI S 9 0 9 8) 10 0 0 0) 10 0 38 = nI (to_r O) := qO.2.2.1
        have e5 : gvI (pvI (pvI S 9 0 9 8) 10 0 0 0) 10 0 36 = nI (to_n O) := qO.1
        refine ⟨-10 - 8, pvI S 9 0 9 8, pvI (pvI (pvI S 9 0 9 8) 10 0 0 0) 10 0 24 8, ?_, ?_, SIM_fail h⟩
        · unfold f_X9_put
          rw [ev_rowAt_t n hX hO hq, dc_bd_s, co, dc_bd_s, dc_if_n (fun q => by cases q), dc_if_n (fun q => by cases q), dc_nn_s, ev_hasPlace_t n hO hq hi, dc_bd_s, dc_if_n (by decide), dc_if_n (fun q => by cases q), dc_nn_s, a2, k1, dc_bd_s, dc_if_p (by decide), show f_X9_failed n S 8 = some (-10 - 8, S) from rfl, dc_bd_s, ev_answ n (by decide) (by decide), dc_bd_s]
        · unfold f_X10_put
          rw [dc_let_q, qv_isRow_t n e4 hq (by omega), dc_bd_s, dc_if_n (by decide), dc_if_n hz1, qv_isObject_t n e5 ho (by omega), dc_bd_s, dc_if_n (by decide), dc_nn_e (show gvR (pvI (pvI S 9 0 9 8) 10 0 0 0) 10 0 40 = some 0 from qx_40 qX), dc_gd_n (lrs (pvI (pvI S 9 0 9 8) 10 0 0 0) qX), ix_c (by omega), show gvI (pvI (pvI S 9 0 9 8) 10 0 0 0) 70 0 q = _ from b2, dc_let_q, in_ct n _ hi (by omega), dc_bd_s, dc_if_n (by decide), dc_if_n (nI_pos (by omega)), dc_nn_e (show gvR (pvI (pvI S 9 0 9 8) 10 0 0 0) 10 0 37 = some 0 from qx_37 qX), dc_gd_n (loc (pvI (pvI S 9 0 9 8) 10 0 0 0) qX), dc_nn_e (show gvR (pvI (pvI S 9 0 9 8) 10 0 0 0) 10 0 39 = some 0 from qx_39 qX), dc_gd_n (lrc2 (pvI (pvI S 9 0 9 8) 10 0 0 0) qX), ix_c (by omega), show gvI (pvI (pvI S 9 0 9 8) 10 0 0 0) 67 0 o = _ from qO.2.1 o ho, show gvI (pvI (pvI S 9 0 9 8) 10 0 0 0) 69 0 q = _ from b1, k2 (pvI (pvI S 9 0 9 8) 10 0 0 0) qX qC, dc_bd_s, dc_if_p (by decide)]
          rfl
