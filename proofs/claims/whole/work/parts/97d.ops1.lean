/-- class and reference stand alike; b bounds the loads so far -/
def SIM (b : Nat) (S : lh_S) : Prop := ∃ (L : GL) (F : GF) (C : GC) (O : GO) (N : GN), CX S ∧ CL S L ∧ CF S F ∧ CC S C ∧ CO S O ∧ CN S N ∧ CS S ∧ QX S ∧ QL S L ∧ QF S F ∧ QC S C F ∧ QO S O ∧ QN S N ∧ IV L F C O ∧ tn_ld N ≤ b
theorem ix2 (x : Int32) {n : Nat} (hn : n ≤ 100000) : (x < 0 ∨ nI n ≤ x) ∨ ∃ j : Nat, j < n ∧ x = nI j := by
  rcases pk_ix x (n := n) (by omega) with h | h | h
  · exact Or.inl (Or.inl h)
  · exact Or.inl (Or.inr h)
  · exact Or.inr h
theorem SIM_thrown {b : Nat} {S : lh_S} {v : Int32} (h : SIM b S) : SIM b (pvI S 10 0 0 v) := by
  obtain ⟨L, F, C, O, N, hX, hL, hF, hC, hO, hN, hS, qX, qL, qF, qC, qO, qN, hI, hb⟩ := h
  exact ⟨L, F, C, O, N, hX, hL, hF, hC, hO, hN, hS, qX, qL, qF, qC, qO, qN, hI, hb⟩
/-- both note a failure -/
theorem SIM_fail {b : Nat} {S : lh_S} {u v : Int32} (h : SIM b S) : SIM b (pvI (pvI (pvI S 9 0 9 v) 10 0 0 u) 10 0 24 v) := by
  obtain ⟨L, F, C, O, N, hX, hL, hF, hC, hO, hN, hS, qX, qL, qF, qC, qO, qN, hI, hb⟩ := h
  exact ⟨L, F, C, O, (tn_ld N, tn_rg N, v), hX, hL, hF, hC, hO, ⟨hN.1, hN.2.1, hN.2.2.1, hN.2.2.2.1, rfl⟩, hS, qX, qL, qF, qC, qO, ⟨qN.1, qN.2.1, rfl⟩, hI, hb⟩
theorem op_known {b : Nat} {S : lh_S} (n : Nat) (h : SIM b S) (x y : Int32) : ∃ v S1 S2, f_X9_known n S 0 x y = some (v, S1) ∧ f_X10_known n S1 0 x y = some (v, S2) ∧ SIM b S2 := by
  obtain ⟨L, F, C, O, N, hX, hL, hF, hC, hO, hN, hS, qX, qL, qF, qC, qO, qN, hI, hb⟩ := id h
  have h8 := hL.2.1
  have e1 : gvI (pvI S 10 0 0 0) 10 0 10 = nI (tl_n L) := qL.1
  have ht : SIM b (pvI S 10 0 0 0) := SIM_thrown h
  rcases ix2 x (n := tl_n L) (by omega) with hx | ⟨l, hl, rfl⟩
  · refine ⟨-2, S, _, ?_, ?_, ht⟩
    · unfold f_X9_known; rw [dc_nn_e (cx_r92 hX), ev_at_f n hL hx, dc_bd_s, dc_if_p rfl]
    · unfold f_X10_known; rw [dc_let_q, qv_isLoader_f n e1 hx (by omega), dc_bd_s, dc_if_p rfl]
  · rcases ix2 y (n := 40) (by omega) with hy | ⟨m, hm, rfl⟩
    · refine ⟨-3, S, _, ?_, ?_, ht⟩
      · unfold f_X9_known; rw [dc_nn_e (cx_r92 hX), ev_at_t n hX hL hl, dc_bd_s, dc_if_n (fun q => by cases q), ev_isName_f n hy, dc_bd_s, dc_if_p rfl]
      · unfold f_X10_known; rw [dc_let_q, qv_isLoader_t n e1 hl (by omega), dc_bd_s, dc_if_n (by decide), qv_isName_f n hy, dc_bd_s, dc_if_p rfl]
    · have hk := (hL.2.2.2.2.2.2 l m hl hm).2.1
      have hl5 := hL.2.2.2.2.2.1 l hl
      have hq := ((qL.2.2.2 l m (by omega) hm).2.1)
      rw [if_pos hl] at hq
      have hq2 : gvI (pvI S 10 0 0 0) 44 0 (40 * l + m) = nI (oc (tl_kn L l m)) := hq
      refine ⟨nI (oc (tl_kn L l m)) - 1, S, _, ?_, ?_, ht⟩
      · unfold f_X9_known
        rw [dc_nn_e (cx_r92 hX), ev_at_t n hX hL hl, dc_bd_s, dc_if_n (fun q => by cases q), ev_isName_t n hm, dc_bd_s, dc_if_n (by decide), dc_nn_s, dc_nn_e hl5.2.2.2.2.1, dc_gd_n (by rw [hl5.2.2.2.2.2.2.2.2.1]; exact ix_in hm (by omega)), ix_c (by omega), hk, ev_numberOf n hC (fun c hc => (hI.2.2.1 l m c hl hm hc).1), dc_bd_s]
      · unfold f_X10_known
        rw [dc_let_q, qv_isLoader_t n e1 hl (by omega), dc_bd_s, dc_if_n (by decide), qv_isName_t n hm, dc_bd_s, dc_if_n (by decide), dc_nn_e (show gvR (pvI S 10 0 0 0) 10 0 14 = some 0 from qx_14 qX), at40, dc_gd_n (by rw [show gvL (pvI S 10 0 0 0) 44 0 = 320 from ql_44 qX]; exact ix_in (by omega) (by omega)), ix_c (by omega), hq2, dc_let_q]
theorem op_bound {b : Nat} {S : lh_S} (n : Nat) (h : SIM b S) (x y : Int32) : ∃ v S1 S2, f_X9_bound n S 0 x y = some (v, S1) ∧ f_X10_bound n S1 0 x y = some (v, S2) ∧ SIM b S2 := by
  obtain ⟨L, F, C, O, N, hX, hL, hF, hC, hO, hN, hS, qX, qL, qF, qC, qO, qN, hI, hb⟩ := id h
  have h8 := hL.2.1
  have e1 : gvI (pvI S 10 0 0 0) 10 0 10 = nI (tl_n L) := qL.1
  have ht : SIM b (pvI S 10 0 0 0) := SIM_thrown h
  rcases ix2 x (n := tl_n L) (by omega) with hx | ⟨l, hl, rfl⟩
  · refine ⟨-2, S, _, ?_, ?_, ht⟩
    · unfold f_X9_bound; rw [dc_nn_e (cx_r92 hX), ev_at_f n hL hx, dc_bd_s, dc_if_p rfl]
    · unfold f_X10_bound; rw [dc_let_q, qv_isLoader_f n e1 hx (by omega), dc_bd_s, dc_if_p rfl]
  · rcases ix2 y (n := 41) (by omega) with hy | ⟨m, hm, rfl⟩
    · refine ⟨-3, S, _, ?_, ?_, ht⟩
      · unfold f_X9_bound; rw [dc_nn_e (cx_r92 hX), ev_at_t n hX hL hl, dc_bd_s, dc_if_n (fun q => by cases q)]
        by_cases h0 : y < 0
        · rw [dc_if_p h0]
        · rcases hy with hy | hy
          · exact absurd hy h0
          · rw [dc_if_n h0, dc_if_n]
            intro h40
            rw [Int32.le_iff_toInt_le, nI_toInt (by omega)] at hy
            rw [Int32.le_iff_toInt_le, show ((40 : Int32).toInt) = 40 from rfl] at h40
            omega
      · unfold f_X10_bound; rw [dc_let_q, qv_isLoader_t n e1 hl (by omega), dc_bd_s, dc_if_n (by decide), in_kf n _ (k := 40) rfl hy (by omega), dc_bd_s, dc_if_p rfl]
    · have hl5 := hL.2.2.2.2.2.1 l hl
      have c0 : f_X9_bound n S 0 (nI l) (nI m) = if l = 0 then some (-4, S) else some (tl_bnd L l, pvI S 2 l 2 (nI m)) := by
        unfold f_X9_bound
        rw [dc_nn_e (cx_r92 hX), ev_at_t n hX hL hl, dc_bd_s, dc_if_n (fun q => by cases q), dc_if_n (nI_pos (by omega)), dc_if_p (show nI m ≤ (40 : Int32) from nI_le (b := 40) (by omega) (by omega)), dc_nn_s, ev_isMachine n hL hl, dc_bd_s]
        by_cases h0 : l = 0
        · rw [if_pos h0, if_pos h0, dc_if_n (by decide)]
        · rw [if_neg h0, if_neg h0, dc_if_p rfl, dc_let_q, hl5.2.2.1]
      by_cases h0 : l = 0
      · subst h0
        refine ⟨-4, S, _, by rw [c0, if_pos rfl], ?_, ht⟩
        unfold f_X10_bound
        rw [dc_let_q, qv_isLoader_t n e1 hl (by omega), dc_bd_s, dc_if_n (by decide), in_kt n _ (k := 40) rfl (by omega) (by omega), dc_bd_s, dc_if_n (by decide), dc_if_p (show nI 0 = (0 : Int32) from rfl)]
      · refine ⟨tl_bnd L l, _, pvI (pvI (pvI S 2 l 2 (nI m)) 10 0 0 0) 42 0 l (nI m), by rw [c0, if_neg h0], ?_, ?_⟩
        · unfold f_X10_bound
          have e2 : gvI (pvI (pvI S 2 l 2 (nI m)) 10 0 0 0) 10 0 10 = nI (tl_n L) := qL.1
          have hq : gvI (pvI (pvI S 2 l 2 (nI m)) 10 0 0 0) 42 0 l = tl_bnd L l := by
            have := qL.2.2.1 l (by omega)
            rw [if_pos hl] at this
            exact this
          rw [dc_let_q, qv_isLoader_t n e2 hl (by omega), dc_bd_s, dc_if_n (by decide), in_kt n _ (k := 40) rfl (by omega) (by omega), dc_bd_s, dc_if_n (by decide), dc_if_n (show ¬ nI l = (0 : Int32) from fun q => h0 ((nI_eq (a := l) (b := 0) (by omega) (by omega)).mp q)), dc_nn_e (show gvR (pvI (pvI S 2 l 2 (nI m)) 10 0 0 0) 10 0 12 = some 0 from qx_12 qX), dc_gd_n (by rw [show gvL (pvI (pvI S 2 l 2 (nI m)) 10 0 0 0) 42 0 = 8 from ql_42 qX]; exact ix_in (by omega) (by omega)), dc_gd_n (by rw [show gvL (pvI (pvI S 2 l 2 (nI m)) 10 0 0 0) 42 0 = 8 from ql_42 qX]; exact ix_in (by omega) (by omega)), dc_let_q, ix_c (by omega), hq]
        · refine ⟨(tl_n L, tl_par L, va_up (tl_bnd L) l (nI m), tl_has L, tl_kn L, tl_dg L, tl_grp L), F, C, O, N, hX, ?_, hF, hC, hO, hN, hS, qX, ?_, qF, qC, qO, qN, hI, hb⟩
          · refine ⟨hL.1, hL.2.1, hL.2.2.1, hL.2.2.2.1, hL.2.2.2.2.1, fun k hk => ?_, hL.2.2.2.2.2.2⟩
            obtain ⟨a1, a2, a3, a4⟩ := hL.2.2.2.2.2.1 k hk
            refine ⟨show gvI (pvI S 2 l 2 (nI m)) 2 k 0 = nI k from (gI_q (by decide)).trans a1, a2, ?_, a4⟩
            show (if 2 = 2 ∧ k = l ∧ 2 = 2 then nI m else gvI S 2 k 2) = va_up (tl_bnd L) l (nI m) k
            unfold va_up
            by_cases hkl : k = l
            · rw [if_pos ⟨rfl, hkl, rfl⟩, if_pos hkl]
            · rw [if_neg (fun q => hkl q.2.1), if_neg hkl]; exact a3
          · refine ⟨qL.1, qL.2.1, fun k hk => ?_, qL.2.2.2⟩
            show (if 42 = 42 ∧ 0 = 0 ∧ k = l then nI m else gvI S 42 0 k) = if k < tl_n L then va_up (tl_bnd L) l (nI m) k else 0
            unfold va_up
            by_cases hkl : k = l
            · subst hkl; rw [if_pos ⟨rfl, rfl, rfl⟩, if_pos hl, if_pos rfl]
            · rw [if_neg (fun q => hkl q.2.2), if_neg hkl]; exact qL.2.2.1 k hk
