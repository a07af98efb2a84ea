theorem rem30 {k : Nat} (h : k < 2 ^ 31) : nI k - nI k / (30 : Int32) * (30 : Int32) = nI (k % 30) := pk_rem (d := 30) h (by omega) (by omega)
theorem op_noted {b : Nat} {S : lh_S} (n : Nat) (hb2 : b ≤ 1000000000) (h : SIM b S) (x : Int32) : ∃ v S1 S2, f_X9_noted n S 0 x = some (v, S1) ∧ f_X10_noted n S1 0 x = some (v, S2) ∧ SIM b S2 := by
  obtain ⟨L, F, C, O, N, hX, hL, hF, hC, hO, hN, hS, qX, qL, qF, qC, qO, qN, hI, hb⟩ := id h
  have ht : SIM b (pvI S 10 0 0 0) := SIM_thrown h
  have e1 : gvI (pvI S 10 0 0 0) 10 0 25 = nI (tn_ld N) := qN.1
  rcases ix2 x (n := min (tn_ld N) 30) (by omega) with hx | ⟨i, hi, rfl⟩
  · refine ⟨-1, S, pvI S 10 0 0 0, ?_, ?_, ht⟩
    · unfold f_X9_noted
      rw [dc_nn_e (cx_r93 hX), dc_nn_e (cx_r41 hX)]
      have : f_X6_latest n S 0 x = some (-1, S) := by
        unfold f_X6_latest
        by_cases h0 : x < 0
        · rw [dc_if_p h0]
        · rw [dc_if_n h0, hN.2.2.1, dc_if_n]
          rcases hx with hx | hx
          · exact absurd hx h0
          · intro hz
            rw [Int32.le_iff_toInt_le] at hx
            rw [Int32.lt_iff_toInt_lt] at hz
            omega
      rw [this, dc_bd_s]
    · unfold f_X10_noted
      rw [dc_let_q, e1]
      by_cases h30 : 30 ≤ tn_ld N
      · rw [dc_if_p (show (30 : Int32) ≤ nI (tn_ld N) from nI_le (a := 30) h30 (by omega))]
        rw [show min (tn_ld N) 30 = 30 by omega] at hx
        rw [show f_X10_in n (pvI S 10 0 0 0) x.toInt64 0 ((30 : Int32) - 1).toInt64 = some (0, pvI S 10 0 0 0) from in_cf n _ (k := 30) hx (by omega), dc_bd_s, dc_if_p rfl]
      · rw [dc_if_n (show ¬ (30 : Int32) ≤ nI (tn_ld N) from nI_ge (b := 30) (by omega) (by omega))]
        rw [show min (tn_ld N) 30 = tn_ld N by omega] at hx
        rw [dc_let_q, in_cf n _ hx (by omega), dc_bd_s, dc_if_p rfl]
  · have hld : i < tn_ld N ∧ i < 30 := by omega
    refine ⟨tn_rg N ((tn_ld N - 1 - i) % 30), S, pvI S 10 0 0 0, ?_, ?_, ht⟩
    · unfold f_X9_noted
      rw [dc_nn_e (cx_r93 hX), dc_nn_e (cx_r41 hX)]
      have : f_X6_latest n S 0 (nI i) = some (tn_rg N ((tn_ld N - 1 - i) % 30), S) := by
        unfold f_X6_latest
        rw [dc_if_n (nI_pos (by omega)), hN.2.2.1, dc_if_p (nI_lt hi (by omega)), hN.2.1, dc_let_q, dc_let_q]
        have r1 : nI (tn_ld N % 30) + (30 : Int32) - 1 = nI (tn_ld N % 30 + 29) := by
          rw [show (30 : Int32) = nI 30 from rfl, nI_add, show (1 : Int32) = nI 1 from rfl, pk_sub (by omega)]
          rfl
        rw [r1, pk_sub (by omega), rem30 (by omega), dc_nn_e (cx_r60 hX), dc_gd_n (by rw [cx_l19 hX]; exact ix_in (by omega) (by omega)), ix_c (by omega), hN.2.2.2.1 _ (by omega)]
        rw [show (tn_ld N % 30 + 29 - i) % 30 = (tn_ld N - 1 - i) % 30 by omega]
      rw [this, dc_bd_s]
    · unfold f_X10_noted
      rw [dc_let_q, e1]
      have r2 : nI (tn_ld N) - 1 - nI i = nI (tn_ld N - 1 - i) := by
        rw [show (1 : Int32) = nI 1 from rfl, pk_sub (by omega), pk_sub (by omega)]
      have g1 : ¬ (nI ((tn_ld N - 1 - i) % 30) < 0 ∨ gvL (pvI S 10 0 0 0) 56 0 ≤ (nI ((tn_ld N - 1 - i) % 30)).toNatClampNeg) := by
        rw [show gvL (pvI S 10 0 0 0) 56 0 = 30 from ql_56 qX]
        exact ix_in (by omega) (by omega)
      by_cases h30 : 30 ≤ tn_ld N
      · rw [dc_if_p (show (30 : Int32) ≤ nI (tn_ld N) from nI_le (a := 30) h30 (by omega)), show f_X10_in n (pvI S 10 0 0 0) (nI i).toInt64 0 ((30 : Int32) - 1).toInt64 = some (1, pvI S 10 0 0 0) from in_ct n _ (k := 30) (by omega) (by omega), dc_bd_s, dc_if_n (by decide), e1, dc_let_q, dc_let_q, r2, rem30 (by omega), dc_nn_e (show gvR (pvI S 10 0 0 0) 10 0 26 = some 0 from qx_26 qX), dc_gd_n g1, ix_c (by omega), show gvI (pvI S 10 0 0 0) 56 0 ((tn_ld N - 1 - i) % 30) = _ from qN.2.1 _ (by omega)]
      · rw [dc_if_n (show ¬ (30 : Int32) ≤ nI (tn_ld N) from nI_ge (b := 30) (by omega) (by omega)), dc_let_q, in_ct n _ (k := tn_ld N) (by omega) (by omega), dc_bd_s, dc_if_n (by decide), e1, dc_let_q, dc_let_q, r2, rem30 (by omega), dc_nn_e (show gvR (pvI S 10 0 0 0) 10 0 26 = some 0 from qx_26 qX), dc_gd_n g1, ix_c (by omega), show gvI (pvI S 10 0 0 0) 56 0 ((tn_ld N - 1 - i) % 30) = _ from qN.2.1 _ (by omega)]
theorem op_method {b : Nat} {S : lh_S} (n : Nat) (h : SIM b S) (x y z u w : Int32) : ∃ v S1 S2, f_X9_method n S 0 x y z u w = some (v, S1) ∧ f_X10_method n S1 0 x y z u w = some (v, S2) ∧ SIM b S2 := by
  obtain ⟨L, F, C, O, N, hX, hL, hF, hC, hO, hN, hS, qX, qL, qF, qC, qO, qN, hI, hb⟩ := id h
  have ht : SIM b (pvI S 10 0 0 0) := SIM_thrown h
  have h30 := hF.1
  have e1 : gvI (pvI S 10 0 0 0) 10 0 1 = nI (tf_n F) := qF.1
  rcases ix2 x (n := tf_n F) (by omega) with hx | ⟨f, hf, rfl⟩
  · refine ⟨-2, S, pvI S 10 0 0 0, ?_, ?_, ht⟩
    · unfold f_X9_method
      rw [ev_fileAt_f n hF hx, dc_bd_s, dc_if_p rfl]
    · unfold f_X10_method
      rw [dc_let_q, qv_isFile_f n e1 hx (by omega), dc_bd_s, dc_if_p rfl]
  rcases ix2 y (n := 4) (by omega) with hy | ⟨m, hm, rfl⟩
  · refine ⟨-3, S, pvI S 10 0 0 0, ?_, ?_, ht⟩
    · unfold f_X9_method
      rw [ev_fileAt_t n hX hF hf, dc_bd_s, dc_if_n (fun q => by cases q), ev_isMethod_f n hy, dc_bd_s, dc_if_p rfl]
    · unfold f_X10_method
      rw [dc_let_q, qv_isFile_t n e1 hf (by omega), dc_bd_s, dc_if_n (by decide), in_kf n _ (k := 3) rfl hy (by omega), dc_bd_s, dc_if_p rfl]
  rcases ix2 z (n := 3) (by omega) with hz | ⟨k, hk, rfl⟩
  · refine ⟨-3, S, pvI S 10 0 0 0, ?_, ?_, ht⟩
    · unfold f_X9_method
      rw [ev_fileAt_t n hX hF hf, dc_bd_s, dc_if_n (fun q => by cases q), ev_isMethod_t n hm, dc_bd_s, dc_if_n (by decide)]
      by_cases h0 : z < 0
      · rw [dc_if_p h0]
      · rcases hz with hz | hz
        · exact absurd hz h0
        · rw [dc_if_n h0, dc_if_n]
          intro h2
          rw [Int32.le_iff_toInt_le, nI_toInt (by omega)] at hz
          rw [Int32.le_iff_toInt_le, show ((2 : Int32).toInt) = 2 from rfl] at h2
          omega
    · unfold f_X10_method
      rw [dc_let_q, qv_isFile_t n e1 hf (by omega), dc_bd_s, dc_if_n (by decide), in_kt n _ (k := 3) rfl (by omega) (by omega), dc_bd_s, dc_if_n (by decide), in_kf n _ (k := 2) rfl hz (by omega), dc_bd_s, dc_if_p rfl]
  have hf5 := hF.2.2.2.2.1 f hf
  generalize hx0 : gvN S 0 = x0
  obtain ⟨S1, hS1⟩ : ∃ S1, S1 = pvR (pvJ (pvJ (pvI (pvN S 0 0) 0 x0 0 (nI k)) 0 x0 1 u.toInt64) 0 x0 2 w.toInt64) 11 f m (some x0) := ⟨_, rfl⟩
  have hc : f_X9_method n S 0 (nI f) (nI m) (nI k) u w = some (1, S1) := by
    rw [hS1]
    unfold f_X9_method
    rw [ev_fileAt_t n hX hF hf, dc_bd_s, dc_if_n (fun q => by cases q), ev_isMethod_t n hm, dc_bd_s, dc_if_n (by decide), dc_if_n (nI_pos (by omega)), dc_if_p (show nI k ≤ (2 : Int32) from nI_le (b := 2) (by omega) (by omega)), dc_nn_s, dc_let_q, hx0]
    unfold f_X0_init
    rw [dc_let_q, dc_let_q, dc_let_q, dc_bd_s, dc_nn_e hf5.2.2.2.2.2.2.1, ix_c (by omega), dc_gd_n, dc_let_q]
    rintro (q | q)
    · exact nI_pos (by omega) q
    · rw [show gvL (pvJ (pvJ (pvI (pvN S 0 0) 0 x0 0 (nI k)) 0 x0 1 u.toInt64) 0 x0 2 w.toInt64) 11 f = 4 from hf5.2.2.2.2.2.2.2] at q
      omega
  have qX1 : QX S1 := QX_9 (k_X9_method hc) qX
  have e2 : gvI (pvI S1 10 0 0 0) 10 0 1 = nI (tf_n F) := (QF_9 (k_X9_method hc) qF).1
  refine ⟨1, S1, pvI (pvI (pvI (pvI S1 10 0 0 0) 37 0 (4 * f + m) (nI k + 1)) 38 0 (4 * f + m) u) 39 0 (4 * f + m) w, hc, ?_, ?_⟩
  · unfold f_X10_method
    have g : ∀ S', QX S' → ∀ a, (a = 37 ∨ a = 38 ∨ a = 39) → ¬ (nI (4 * f + m) < 0 ∨ gvL S' a 0 ≤ 4 * f + m) := by
      intro S' hq a ha
      have := hq.2.2.1 a (by rcases ha with rfl | rfl | rfl <;> decide)
      rw [this]
      rintro (q | q)
      · exact nI_pos (by omega) q
      · omega
    rw [dc_let_q, qv_isFile_t n e2 hf (by omega), dc_bd_s, dc_if_n (by decide), in_kt n _ (k := 3) rfl (by omega) (by omega), dc_bd_s, dc_if_n (by decide), in_kt n _ (k := 2) rfl (by omega) (by omega), dc_bd_s, dc_if_n (by decide), at4, ix_c (by omega), dc_nn_e (show gvR (pvI S1 10 0 0 0) 10 0 7 = some 0 from qx_7 qX1), dc_gd_n (g (pvI S1 10 0 0 0) qX1 37 (by omega)), dc_let_q, dc_nn_e (show gvR (pvI (pvI S1 10 0 0 0) 37 0 (4 * f + m) (nI k + 1)) 10 0 8 = some 0 from qx_8 qX1), dc_gd_n (g (pvI (pvI S1 10 0 0 0) 37 0 (4 * f + m) (nI k + 1)) qX1 38 (by omega)), dc_let_q, dc_nn_e (show gvR (pvI (pvI (pvI S1 10 0 0 0) 37 0 (4 * f + m) (nI k + 1)) 38 0 (4 * f + m) u) 10 0 9 = some 0 from qx_9 qX1), dc_gd_n (g (pvI (pvI (pvI S1 10 0 0 0) 37 0 (4 * f + m) (nI k + 1)) 38 0 (4 * f + m) u) qX1 39 (by omega)), dc_let_q]
  subst hS1
  · refine ⟨L, (tf_n F, tf_nm F, tf_in F, tf_ab F, tf_ct F, tf_fi F, lh_u2 (tf_me F) f m (some (k, u, w))), C, O, N, hX, hL, ?_, hC, hO, hN, hS, qX1, qL, ?_, qC, qO, qN, ?_, hb⟩
    · refine ⟨hF.1, hF.2.1, hF.2.2.1, hF.2.2.2.1, hF.2.2.2.2.1, fun f' m' hf' hm' => ?_⟩
      have old := hF.2.2.2.2.2 f' m' hf' hm'
      by_cases hq : f' = f ∧ m' = m
      · obtain ⟨rfl, rfl⟩ := hq
        refine ⟨fun h9 => ?_, fun k9 a9 b9 h9 => ?_⟩
        · have h9 : lh_u2 (tf_me F) f' m' (some (k, u, w)) f' m' = none := h9
          rw [u2_s] at h9
          cases h9
        · have h9 : lh_u2 (tf_me F) f' m' (some (k, u, w)) f' m' = some (k9, a9, b9) := h9
          rw [u2_s] at h9
          cases h9
          refine ⟨x0, gR_s, ?_, ?_, ?_, ?_⟩
          · show x0 < gvN (pvN S 0 0) 0
            rw [gN_pN, if_pos rfl, hx0]
            omega
          · show gvI (pvI (pvN S 0 0) 0 x0 0 (nI k)) 0 x0 0 = nI k
            exact gI_s
          · show gvJ (pvJ (pvJ (pvI (pvN S 0 0) 0 x0 0 (nI k)) 0 x0 1 u.toInt64) 0 x0 2 w.toInt64) 0 x0 1 = u.toInt64
            rw [gJ_q (by decide), gJ_s]
          · show gvJ (pvJ (pvJ (pvI (pvN S 0 0) 0 x0 0 (nI k)) 0 x0 1 u.toInt64) 0 x0 2 w.toInt64) 0 x0 2 = w.toInt64
            exact gJ_s
      · have e0 : lh_u2 (tf_me F) f m (some (k, u, w)) f' m' = tf_me F f' m' := u2_n hq
        have er : gvR (pvR (pvJ (pvJ (pvI (pvN S 0 0) 0 x0 0 (nI k)) 0 x0 1 u.toInt64) 0 x0 2 w.toInt64) 11 f m (some x0)) 11 f' m' = gvR S 11 f' m' := by
          rw [gR_pR, if_neg (fun z => hq z.2)]
          rfl
        refine ⟨fun h9 => ?_, fun k9 a9 b9 h9 => ?_⟩
        · exact er.trans (old.1 (e0.symm.trans h9))
        · obtain ⟨y, y1, y2, y3, y4, y5⟩ := old.2 k9 a9 b9 (e0.symm.trans h9)
          have hne : y ≠ x0 := by omega
          refine ⟨y, er.trans y1, ?_, ?_, ?_, ?_⟩
          · show y < gvN (pvN S 0 0) 0
            rw [gN_pN, if_pos rfl]
            omega
          · show gvI (pvI (pvN S 0 0) 0 x0 0 (nI k)) 0 y 0 = nI k9
            rw [gI_j hne, gI_pN, if_neg (fun z => hne (z.2.trans hx0))]
            exact y3
          · show gvJ (pvJ (pvJ (pvI (pvN S 0 0) 0 x0 0 (nI k)) 0 x0 1 u.toInt64) 0 x0 2 w.toInt64) 0 y 1 = a9.toInt64
            rw [gJ_j hne, gJ_j hne]
            show gvJ (pvN S 0 0) 0 y 1 = a9.toInt64
            rw [gJ_pN, if_neg (fun z => hne (z.2.trans hx0))]
            exact y4
          · show gvJ (pvJ (pvJ (pvI (pvN S 0 0) 0 x0 0 (nI k)) 0 x0 1 u.toInt64) 0 x0 2 w.toInt64) 0 y 2 = b9.toInt64
            rw [gJ_j hne, gJ_j hne]
            show gvJ (pvN S 0 0) 0 y 2 = b9.toInt64
            rw [gJ_pN, if_neg (fun z => hne (z.2.trans hx0))]
            exact y5
    · refine ⟨qF.1, qF.2.1, fun f' m' hf' hm' => ?_⟩
      have old := qF.2.2 f' m' hf' hm'
      have i37 : ∀ v1 v2 v3, gvI (pvI (pvI (pvI S 37 0 (4 * f + m) v1) 38 0 (4 * f + m) v2) 39 0 (4 * f + m) v3) 37 0 (4 * f' + m') = if f' = f ∧ m' = m then v1 else gvI S 37 0 (4 * f' + m') := by
        intro v1 v2 v3
        show gvI (pvI S 37 0 (4 * f + m) v1) 37 0 (4 * f' + m') = _
        by_cases hq : f' = f ∧ m' = m
        · obtain ⟨rfl, rfl⟩ := hq
          rw [gI_s, if_pos ⟨rfl, rfl⟩]
        · rw [gI_q (by omega), if_neg hq]
      refine ⟨fun hlt => ?_, fun hge => ?_⟩
      · have hlt : f' < tf_n F := hlt
        by_cases hq : f' = f ∧ m' = m
        · obtain ⟨rfl, rfl⟩ := hq
          refine ⟨fun h9 => ?_, fun k9 a9 b9 h9 => ?_⟩
          · have h9 : lh_u2 (tf_me F) f' m' (some (k, u, w)) f' m' = none := h9
            rw [u2_s] at h9
            cases h9
          · have h9 : lh_u2 (tf_me F) f' m' (some (k, u, w)) f' m' = some (k9, a9, b9) := h9
            rw [u2_s] at h9
            cases h9
            refine ⟨?_, ?_, ?_⟩
            · show gvI (pvI S 37 0 (4 * f' + m') (nI k + 1)) 37 0 (4 * f' + m') = nI (k + 1)
              rw [gI_s]
              exact nI_1 k
            · show gvI (pvI S 38 0 (4 * f' + m') u) 38 0 (4 * f' + m') = u
              exact gI_s
            · show gvI (pvI S 39 0 (4 * f' + m') w) 39 0 (4 * f' + m') = w
              exact gI_s
        · have e0 : lh_u2 (tf_me F) f m (some (k, u, w)) f' m' = tf_me F f' m' := u2_n hq
          have old := old.1 hlt
          refine ⟨fun h9 => ?_, fun k9 a9 b9 h9 => ?_⟩
          · show gvI (pvI S 37 0 (4 * f + m) (nI k + 1)) 37 0 (4 * f' + m') = 0
            rw [gI_q (by omega)]
            exact old.1 (e0.symm.trans h9)
          · obtain ⟨y1, y2, y3⟩ := old.2 k9 a9 b9 (e0.symm.trans h9)
            refine ⟨?_, ?_, ?_⟩
            · show gvI (pvI S 37 0 (4 * f + m) (nI k + 1)) 37 0 (4 * f' + m') = nI (k9 + 1)
              rw [gI_q (by omega)]
              exact y1
            · show gvI (pvI S 38 0 (4 * f + m) u) 38 0 (4 * f' + m') = a9
              rw [gI_q (by omega)]
              exact y2
            · show gvI (pvI S 39 0 (4 * f + m) w) 39 0 (4 * f' + m') = b9
              rw [gI_q (by omega)]
              exact y3
      · have hge : tf_n F ≤ f' := hge
        show gvI (pvI S 37 0 (4 * f + m) (nI k + 1)) 37 0 (4 * f' + m') = 0
        rw [gI_q (by omega)]
        exact old.2 hge
    · refine ⟨hI.1, hI.2.1, hI.2.2.1, hI.2.2.2.1, hI.2.2.2.2.1, fun f' m' k9 a9 b9 hf' hm' h9 => ?_, hI.2.2.2.2.2.2⟩
      have h9 : lh_u2 (tf_me F) f m (some (k, u, w)) f' m' = some (k9, a9, b9) := h9
      by_cases hq : f' = f ∧ m' = m
      · obtain ⟨rfl, rfl⟩ := hq
        rw [u2_s] at h9
        cases h9
        omega
      · rw [u2_n hq] at h9
        exact hI.2.2.2.2.2.1 f' m' k9 a9 b9 hf' hm' h9
