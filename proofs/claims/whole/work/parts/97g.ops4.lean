theorem u2_s {α : Type} {f : Nat → Nat → α} {a b : Nat} {v : α} : lh_u2 f a b v a b = v := by simp [lh_u2]
theorem u2_n {α : Type} {f : Nat → Nat → α} {a b x y : Nat} {v : α} (h : ¬ (x = a ∧ y = b)) : lh_u2 f a b v x y = f x y := by simp only [lh_u2, if_neg h]
theorem op_bear {b : Nat} {S : lh_S} (n : Nat) (h : SIM b S) (x y : Int32) : ∃ v S1 S2, f_X9_bear n S 0 x y = some (v, S1) ∧ f_X10_bear n S1 0 x y = some (v, S2) ∧ SIM b S2 := by
  obtain ⟨L, F, C, O, N, hX, hL, hF, hC, hO, hN, hS, qX, qL, qF, qC, qO, qN, hI, hb⟩ := id h
  have ht : SIM b (pvI S 10 0 0 0) := SIM_thrown h
  have h8 := hL.2.1
  have h30 := hF.1
  have e1 : gvI (pvI S 10 0 0 0) 10 0 10 = nI (tl_n L) := qL.1
  have e2 : gvI (pvI S 10 0 0 0) 10 0 1 = nI (tf_n F) := qF.1
  rcases ix2 x (n := tl_n L) (by omega) with hx | ⟨l, hl, rfl⟩
  · refine ⟨-2, S, pvI S 10 0 0 0, ?_, ?_, ht⟩
    · unfold f_X9_bear
      rcases ix2 y (n := tf_n F) (by omega) with hy | ⟨f, hf, rfl⟩
      · rw [dc_nn_e (cx_r92 hX), ev_at_f n hL hx, dc_bd_s, ev_fileAt_f n hF hy, dc_bd_s, dc_if_p rfl]
      · rw [dc_nn_e (cx_r92 hX), ev_at_f n hL hx, dc_bd_s, ev_fileAt_t n hX hF hf, dc_bd_s, dc_if_p rfl]
    · unfold f_X10_bear
      rw [dc_let_q, qv_isLoader_f n e1 hx (by omega), dc_bd_s, dc_if_p rfl]
  · rcases ix2 y (n := tf_n F) (by omega) with hy | ⟨f, hf, rfl⟩
    · refine ⟨-2, S, pvI S 10 0 0 0, ?_, ?_, ht⟩
      · unfold f_X9_bear
        rw [dc_nn_e (cx_r92 hX), ev_at_t n hX hL hl, dc_bd_s, ev_fileAt_f n hF hy, dc_bd_s, dc_if_n (fun q => by cases q), dc_if_p rfl]
      · unfold f_X10_bear
        rw [dc_let_q, qv_isLoader_t n e1 hl (by omega), dc_bd_s, dc_if_n (by decide), qv_isFile_f n e2 hy (by omega), dc_bd_s, dc_if_p rfl]
    · by_cases h0 : l = 0
      · subst h0
        refine ⟨-4, S, pvI S 10 0 0 0, ?_, ?_, ht⟩
        · unfold f_X9_bear
          rw [dc_nn_e (cx_r92 hX), ev_at_t n hX hL hl, dc_bd_s, ev_fileAt_t n hX hF hf, dc_bd_s, dc_if_n (fun q => by cases q), dc_if_n (fun q => by cases q), dc_nn_s, ev_isMachine n hL hl, dc_bd_s, if_pos rfl, dc_if_n (by decide)]
        · unfold f_X10_bear
          rw [dc_let_q, qv_isLoader_t n e1 hl (by omega), dc_bd_s, dc_if_n (by decide), qv_isFile_t n e2 hf (by omega), dc_bd_s, dc_if_n (by decide), dc_if_p (show nI 0 = (0 : Int32) from rfl)]
      · have hnm := (hI.2.2.2.2.1 f hf).1
        have hl5 := hL.2.2.2.2.2.1 l hl
        have hf5 := hF.2.2.2.2.1 f hf
        generalize hm : tf_nm F f = m at hnm hf5
        refine ⟨1, pvR S 12 l m (some f), pvI (pvI (pvR S 12 l m (some f)) 10 0 0 0) 43 0 (40 * l + m) (nI f + 1), ?_, ?_, ?_⟩
        · unfold f_X9_bear
          rw [dc_nn_e (cx_r92 hX), ev_at_t n hX hL hl, dc_bd_s, ev_fileAt_t n hX hF hf, dc_bd_s, dc_if_n (fun q => by cases q), dc_if_n (fun q => by cases q), dc_nn_s, ev_isMachine n hL hl, dc_bd_s, if_neg h0, dc_if_p rfl, dc_nn_s, dc_nn_e hl5.2.2.2.1, hf5.2.1, dc_gd_n (by rw [hl5.2.2.2.2.2.2.2.1]; exact ix_in hnm (by omega)), ix_c (by omega), dc_let_q]
        · unfold f_X10_bear
          have e3 : gvI (pvI (pvR S 12 l m (some f)) 10 0 0 0) 10 0 10 = nI (tl_n L) := qL.1
          have e4 : gvI (pvI (pvR S 12 l m (some f)) 10 0 0 0) 10 0 1 = nI (tf_n F) := qF.1
          have e5 : gvI (pvI (pvR S 12 l m (some f)) 10 0 0 0) 32 0 f = nI m := by rw [← hm]; exact (qF.2.1 f hf).1
          rw [dc_let_q, qv_isLoader_t n e3 hl (by omega), dc_bd_s, dc_if_n (by decide), qv_isFile_t n e4 hf (by omega), dc_bd_s, dc_if_n (by decide), dc_if_n (show ¬ nI l = (0 : Int32) from fun q => h0 ((nI_eq (a := l) (b := 0) (by omega) (by omega)).mp q)), dc_nn_e (show gvR (pvI (pvR S 12 l m (some f)) 10 0 0 0) 10 0 2 = some 0 from qx_2 qX), dc_gd_n (by rw [show gvL (pvI (pvR S 12 l m (some f)) 10 0 0 0) 32 0 = 30 from ql_32 qX]; exact ix_in (by omega) (by omega)), ix_c (by omega), e5, at40, dc_let_q, dc_nn_e (show gvR (pvI (pvR S 12 l m (some f)) 10 0 0 0) 10 0 13 = some 0 from qx_13 qX), dc_gd_n (by rw [show gvL (pvI (pvR S 12 l m (some f)) 10 0 0 0) 43 0 = 320 from ql_43 qX]; exact ix_in (by omega) (by omega)), ix_c (by omega), dc_let_q]
        · refine ⟨(tl_n L, tl_par L, tl_bnd L, lh_u2 (tl_has L) l m (some f), tl_kn L, tl_dg L, tl_grp L), F, C, O, N, hX, ?_, hF, hC, hO, hN, hS, qX, ?_, qF, qC, qO, qN, ?_, hb⟩
          · refine ⟨hL.1, hL.2.1, hL.2.2.1, hL.2.2.2.1, hL.2.2.2.2.1, hL.2.2.2.2.2.1, fun k q hk hq => ?_⟩
            obtain ⟨a1, a2⟩ := hL.2.2.2.2.2.2 k q hk hq
            refine ⟨?_, a2⟩
            show gvR (pvR S 12 l m (some f)) 12 k q = lh_u2 (tl_has L) l m (some f) k q
            by_cases hz : k = l ∧ q = m
            · obtain ⟨rfl, rfl⟩ := hz
              rw [gR_s, u2_s]
            · rw [u2_n hz, gR_pR, if_neg (fun w => hz w.2)]
              exact a1
          · refine ⟨qL.1, qL.2.1, qL.2.2.1, fun k q hk hq => ?_⟩
            obtain ⟨a1, a2⟩ := qL.2.2.2 k q hk hq
            refine ⟨?_, a2⟩
            show gvI (pvI (pvI (pvR S 12 l m (some f)) 10 0 0 0) 43 0 (40 * l + m) (nI f + 1)) 43 0 (40 * k + q) = nI (if k < tl_n L then oc (lh_u2 (tl_has L) l m (some f) k q) else 0)
            by_cases hz : k = l ∧ q = m
            · obtain ⟨rfl, rfl⟩ := hz
              rw [gI_s, u2_s, if_pos hl]
              exact nI_1 f
            · rw [u2_n hz, gI_q (by omega)]
              exact a1
          · refine ⟨hI.1, fun k q g hk hq hg => ?_, hI.2.2⟩
            have hg : lh_u2 (tl_has L) l m (some f) k q = some g := hg
            by_cases hz : k = l ∧ q = m
            · obtain ⟨rfl, rfl⟩ := hz
              rw [u2_s] at hg
              cases hg
              exact ⟨hf, hm⟩
            · rw [u2_n hz] at hg
              exact hI.2.1 k q g hk hq hg
theorem QX_9 {S S1 : lh_S} (h : lh_sm9 S S1) (q : QX S) : QX S1 := by
  obtain ⟨q1, q2, q3, q4, q5, q6, q7, q8, q9, q10, q11, q12⟩ := q
  have lk : ∀ k, 30 ≤ k → gvL S1 k = gvL S k := fun k hk => (h k (Or.inr hk)).2.1
  refine ⟨fun k hk => by rw [(h 10 (Or.inl rfl)).2.2.2.2]; exact q1 k hk, fun k hk => ?_, fun k hk => ?_, fun k hk => ?_, fun k hk => ?_, fun k hk => ?_, fun k hk => ?_, by rw [lk 65 (by decide)]; exact q8, by rw [lk 67 (by decide)]; exact q9, by rw [lk 69 (by decide)]; exact q10, by rw [lk 70 (by decide)]; exact q11, by rw [lk 71 (by decide)]; exact q12⟩
  · rw [lk k (by simp at hk; omega)]; exact q2 k hk
  · rw [lk k (by simp at hk; omega)]; exact q3 k hk
  · rw [lk k (by simp at hk; omega)]; exact q4 k hk
  · rw [lk k (by simp at hk; omega)]; exact q5 k hk
  · rw [lk k (by simp at hk; omega)]; exact q6 k hk
  · rw [lk k (by simp at hk; omega)]; exact q7 k hk
theorem QL_9 {S S1 : lh_S} {L : GL} (h : lh_sm9 S S1) (q : QL S L) : QL S1 L := by
  unfold QL at q ⊢
  rw [(h 10 (by decide)).2.2.1, (h 41 (by decide)).2.2.1, (h 42 (by decide)).2.2.1, (h 43 (by decide)).2.2.1, (h 44 (by decide)).2.2.1, (h 45 (by decide)).2.2.1, (h 46 (by decide)).2.2.1]
  exact q
theorem QF_9 {S S1 : lh_S} {F : GF} (h : lh_sm9 S S1) (q : QF S F) : QF S1 F := by
  unfold QF at q ⊢
  rw [(h 10 (by decide)).2.2.1, (h 32 (by decide)).2.2.1, (h 33 (by decide)).2.2.1, (h 34 (by decide)).2.2.1, (h 35 (by decide)).2.2.1, (h 36 (by decide)).2.2.1, (h 37 (by decide)).2.2.1, (h 38 (by decide)).2.2.1, (h 39 (by decide)).2.2.1]
  exact q
theorem QC_9 {S S1 : lh_S} {C : GC} {F : GF} (h : lh_sm9 S S1) (q : QC S C F) : QC S1 C F := by
  unfold QC at q ⊢
  rw [(h 10 (by decide)).2.2.1, (h 48 (by decide)).2.2.1, (h 49 (by decide)).2.2.1, (h 50 (by decide)).2.2.1, (h 51 (by decide)).2.2.1, (h 52 (by decide)).2.2.1, (h 53 (by decide)).2.2.2.1]
  exact q
theorem QO_9 {S S1 : lh_S} {O : GO} (h : lh_sm9 S S1) (q : QO S O) : QO S1 O := by
  unfold QO at q ⊢
  rw [(h 10 (by decide)).2.2.1, (h 67 (by decide)).2.2.1, (h 69 (by decide)).2.2.1, (h 70 (by decide)).2.2.1, (h 71 (by decide)).2.2.1]
  exact q
theorem QN_9 {S S1 : lh_S} {N : GN} (h : lh_sm9 S S1) (q : QN S N) : QN S1 N := by
  unfold QN at q ⊢
  rw [(h 10 (by decide)).2.2.1, (h 56 (by decide)).2.2.1]
  exact q
