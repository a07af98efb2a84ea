theorem cl_started {S : lh_S} {F : GF} {C : GC} (n : Nat) (hn : 100 ≤ n) (hX : CX S) (hF : CF S F) (hC : CC S C) (hI : ∀ d, d < tc_n C → tc_fl C d < tf_n F ∧ ∀ a, tc_ab C d = some a → a < d) (hst : ∀ d, d < tc_n C → tc_st C d ≤ 2) {c : Nat} (hc : c < tc_n C) : ∃ S1, f_X9_started n S 0 (some c) = some (if (stF F 41 C c).1 = 0 then 1 else -10 - nI (stF F 41 C c).1, S1) ∧ CC S1 (stF F 41 C c).2 ∧ K5 S S1 := by
  have h40 := hC.1
  obtain ⟨g, S1, v, o, h1, h2, h3, h4, h5⟩ := cl_start n hn (some c) 41 c 0 n S C (by omega) hc hX hF hC hI (by omega) (by omega) (hst c hc) hst
  obtain ⟨m, rfl⟩ : ∃ q, g = q + 1 := ⟨g - 1, by omega⟩
  have hf := (stF_keep F 41 C c).2.2.2.2
  refine ⟨S1, ?_, h3, h4⟩
  unfold f_X9_started
  rw [show f_X9_started_L4 n 0 (some c) n S 0 (some c) = _ from h1, f_X9_started_L63, dc_if_p (show nI 0 - 1 < 0 by decide)]
  by_cases h0 : (stF F 41 C c).1 = 0
  · rw [h0, if_pos rfl, dc_if_p (show nI 0 = (0 : Int32) from rfl)]
  · rw [if_neg h0, dc_if_n (show ¬ nI (stF F 41 C c).1 = (0 : Int32) from fun q => h0 ((nI_eq (b := 0) (by omega) (by omega)).mp q))]
    rfl
theorem rf_started {S : lh_S} {F : GF} {C : GC} (n : Nat) (hn : 100 ≤ n) (h30 : tf_n F ≤ 30) (h40 : tc_n C ≤ 40) (qX : QX S) (qF : QF S F) (qC : QC S C F) (hI : ∀ d, d < tc_n C → tc_fl C d < tf_n F ∧ ∀ a, tc_ab C d = some a → a < d) (hst : ∀ d, d < tc_n C → tc_st C d ≤ 2) {c : Nat} (hc : c < tc_n C) : ∃ S1, f_X10_started n S 0 (nI c) = some (nI (stF F 41 C c).1, S1) ∧ QC S1 (stF F 41 C c).2 F ∧ KR S S1 := by
  obtain ⟨g, S1, v, o, h1, h2, h3, h4, h5⟩ := rf_start n hn (nI c) h30 41 c 0 n S C (by omega) hc h40 qX qF qC hI (by omega) (by omega) hst
  obtain ⟨m, rfl⟩ : ∃ q, g = q + 1 := ⟨g - 1, by omega⟩
  refine ⟨S1, ?_, h3, h4⟩
  unfold f_X10_started
  rw [show f_X10_started_L4 n 0 (nI c) n S 0 (nI c) = _ from h1, f_X10_started_L63, dc_if_p (show nI 0 - 1 < 0 by decide)]
theorem stOne_st (F : GF) (C : GC) (c f : Nat) (h : ∀ d, d < tc_n C → tc_st C d ≤ 2) : ∀ d, d < tc_n C → tc_st (stOne F C c f).2 d ≤ 2 := by
  intro d hd
  have key : ∀ v, v ≤ 2 → va_up (tc_st C) c v d ≤ 2 := fun v hv => by
    unfold va_up
    split
    · exact hv
    · exact h d hd
  unfold stOne
  split
  · exact key 2 (by omega)
  · split
    · exact key 2 (by omega)
    · exact key 1 (by omega)
theorem stF_st (F : GF) : ∀ (k : Nat) (C : GC) (c : Nat), (∀ d, d < tc_n C → tc_st C d ≤ 2) → ∀ d, d < tc_n C → tc_st (stF F k C c).2 d ≤ 2 := by
  intro k
  induction k with
  | zero => intro C c h d hd; exact h d hd
  | succ k ih =>
    intro C c h d hd
    unfold stF
    split
    · exact h d hd
    · split
      · exact h d hd
      · split
        · exact stOne_st F C c 0 h d hd
        · next a ha =>
          have e := (stF_keep F k C a).1
          exact stOne_st F _ c _ (fun d' hd' => ih C a h d' (by rw [← e]; exact hd')) d (by rw [e]; exact hd)
theorem IV_st {L : GL} {F : GF} {C : GC} {O : GO} {k c : Nat} (h : IV L F C O) : IV L F (stF F k C c).2 O := by
  obtain ⟨e1, e2, e3, e4, -⟩ := stF_keep F k C c
  obtain ⟨i1, i2, i3, i4, i5, i6, i7, i8, i9⟩ := h
  refine ⟨i1, i2, ?_, i4, i5, i6, ?_, ?_, ?_⟩
  · rw [e1, e2]; exact i3
  · intro d hd
    rw [e1] at hd
    have hs := stF_st F k C c (fun d hd => (i7 d hd).2.2.1) d hd
    rw [e2, e3, e4]
    exact ⟨(i7 d hd).1, (i7 d hd).2.1, hs, (i7 d hd).2.2.2⟩
  · rw [e1]; exact i8
  · rw [e1]; exact i9
/-- both start a class: what they answer, and how they stand then; x: the failure that both note, if one -/
theorem both_start {b : Nat} {S : lh_S} (n : Nat) (hn : 100 ≤ n) {L : GL} {F : GF} {C : GC} {O : GO} {N : GN} (hX : CX S) (hL : CL S L) (hF : CF S F) (hC : CC S C) (hO : CO S O) (hN : CN S N) (hS : CS S) (qX : QX S) (qL : QL S L) (qF : QF S F) (qC : QC S C F) (qO : QO S O) (qN : QN S N) (hI : IV L F C O) (hb : tn_ld N ≤ b) {c : Nat} (hc : c < tc_n C) :
    ∃ f C' S1, f ≤ 100 ∧ tc_n C' = tc_n C ∧ f_X9_started n S 0 (some c) = some (if f = 0 then 1 else -10 - nI f, S1) ∧ CC S1 C' ∧ K5 S S1 ∧ IV L F C' O ∧ ∀ T, QX T → QF T F → QC T C F → ∃ S2, f_X10_started n T 0 (nI c) = some (nI f, S2) ∧ QC S2 C' F ∧ KR T S2 := by
  have hi : ∀ d, d < tc_n C → tc_fl C d < tf_n F ∧ ∀ a, tc_ab C d = some a → a < d := fun d hd => ⟨(hI.2.2.2.2.2.2.1 d hd).2.1, (hI.2.2.2.2.2.2.1 d hd).2.2.2⟩
  have hst : ∀ d, d < tc_n C → tc_st C d ≤ 2 := fun d hd => (hI.2.2.2.2.2.2.1 d hd).2.2.1
  obtain ⟨S1, h1, h2, h3⟩ := cl_started n hn hX hF hC hi hst hc
  refine ⟨(stF F 41 C c).1, (stF F 41 C c).2, S1, (stF_keep F 41 C c).2.2.2.2, (stF_keep F 41 C c).1, h1, h2, h3, IV_st hI, fun T q1 q2 q3 => ?_⟩
  exact rf_started n hn hF.1 hC.1 q1 q2 q3 hi hst hc
theorem SIM_of {b : Nat} {S T S2 : lh_S} {L : GL} {F : GF} {C' : GC} {O : GO} {N : GN} (hX : CX T) (hL : CL T L) (hF : CF T F) (hC : CC T C') (hO : CO T O) (hN : CN T N) (hS : CS T) (qX : QX T) (qL : QL T L) (qF : QF T F) (qO : QO T O) (qN : QN T N) (hI : IV L F C' O) (hb : tn_ld N ≤ b) (k : KR T S2) (qC : QC S2 C' F) : SIM b S2 :=
  ⟨L, F, C', O, N, KR_CX k hX, KR_CL k hL, KR_CF k hF, KR_CC k hC, KR_CO k hO, KR_CN k hN, KR_CS k hS, KR_QX k qX, KR_QL k qL, KR_QF k qF, qC, KR_QO k qO, KR_QN k qN, hI, hb⟩
/-- the reference's mark of a failure that the class has marked -/
theorem SIM_of2 {b : Nat} {T S2 : lh_S} {L : GL} {F : GF} {C' : GC} {O : GO} {N : GN} {v : Int32} (hX : CX T) (hL : CL T L) (hF : CF T F) (hC : CC T C') (hO : CO T O) (hN : CN T (tn_ld N, tn_rg N, v)) (hS : CS T) (qX : QX T) (qL : QL T L) (qF : QF T F) (qO : QO T O) (qN : QN T N) (hI : IV L F C' O) (hb : tn_ld N ≤ b) (k : KR T S2) (qC : QC S2 C' F) : SIM b (pvI S2 10 0 24 v) := by
  have a1 := KR_CX k hX
  have a2 := KR_CL k hL
  have a3 := KR_CF k hF
  have a4 := KR_CC k hC
  have a5 := KR_CO k hO
  have a6 := KR_CN k hN
  have a7 := KR_CS k hS
  have b1 := KR_QX k qX
  have b2 := KR_QL k qL
  have b3 := KR_QF k qF
  have b5 := KR_QO k qO
  have b6 := KR_QN k qN
  exact ⟨L, F, C', O, (tn_ld N, tn_rg N, v), a1, a2, a3, a4, a5, a6, a7, b1, b2, b3, qC, b5, ⟨b6.1, b6.2.1, rfl⟩, hI, hb⟩
theorem fail_pos {f : Nat} (h0 : ¬ f = 0) (hf : f ≤ 100) : 1 ≤ (nI f).toInt ∧ (nI f).toInt ≤ 100 := by
  rw [nI_toInt (by omega)]
  omega
theorem op_start {b : Nat} {S : lh_S} (n : Nat) (hn : 100 ≤ n) (h : SIM b S) (x : Int32) : ∃ v S1 S2, f_X9_start n S 0 x = some (v, S1) ∧ f_X10_start n S1 0 x = some (v, S2) ∧ SIM b S2 := by
  obtain ⟨L, F, C, O, N, hX, hL, hF, hC, hO, hN, hS, qX, qL, qF, qC, qO, qN, hI, hb⟩ := id h
  have ht : SIM b (pvI S 10 0 0 0) := SIM_thrown h
  have h40 := hC.1
  have e1 : gvI (pvI S 10 0 0 0) 10 0 17 = nI (tc_n C) := qC.1
  rcases ix2 x (n := tc_n C) (by omega) with hx | ⟨c, hc, rfl⟩
  · refine ⟨-2, S, pvI S 10 0 0 0, ?_, ?_, ht⟩
    · unfold f_X9_start
      rw [dc_nn_e (cx_r93 hX), ev_classAt_f n hC hx, dc_bd_s, dc_if_p rfl]
    · unfold f_X10_start
      rw [dc_let_q, qv_isClass_f n e1 hx (by omega), dc_bd_s, dc_if_p rfl]
  · obtain ⟨f, C', S1, hf, hn', h1, h2, h3, h4, h5⟩ := both_start (b := b) n hn hX hL hF hC hO hN hS qX qL qF qC qO qN hI hb hc
    have x1 := K5_CX h3 hX
    have x2 := K5_CL h3 hL
    have x3 := K5_CF h3 hF
    have x5 := K5_CO h3 hO
    have x6 := K5_CN h3 hN
    have x7 := K5_CS h3 hS
    have y1 := K5_QX h3 qX
    have y2 := K5_QL h3 qL
    have y3 := K5_QF h3 qF
    have y4 := K5_QC h3 qC
    have y5 := K5_QO h3 qO
    have y6 := K5_QN h3 qN
    have hcl : f_X9_start n S 0 (nI c) = dc_bd (f_X9_answered n S1 0 (if f = 0 then 1 else -10 - nI f)) fun r13 S14 => some (r13, S14) := by
      unfold f_X9_start
      rw [dc_nn_e (cx_r93 hX), ev_classAt_t n hX hC hc, dc_bd_s, dc_if_n (fun q => by cases q), h1, dc_bd_s]
    by_cases h0 : f = 0
    · subst h0
      have e3 : gvI (pvI S1 10 0 0 0) 10 0 17 = nI (tc_n C) := y4.1
      obtain ⟨S2, s1, s2, s3⟩ := h5 (pvI S1 10 0 0 0) y1 y3 y4
      refine ⟨1, S1, S2, ?_, ?_, ?_⟩
      · rw [hcl, if_pos rfl, ev_answ1 n (by decide), dc_bd_s]
      · unfold f_X10_start
        rw [dc_let_q, qv_isClass_t n e3 hc (by omega), dc_bd_s, dc_if_n (by decide), s1, dc_bd_s, dc_if_p (by decide)]
      · exact SIM_of (S := S) (T := pvI S1 10 0 0 0) x1 x2 x3 h2 x5 x6 x7 y1 y2 y3 y5 y6 h4 hb s3 s2
    · have e3 : gvI (pvI (pvI S1 9 0 9 (nI f)) 10 0 0 0) 10 0 17 = nI (tc_n C) := y4.1
      obtain ⟨S2, s1, s2, s3⟩ := h5 (pvI (pvI S1 9 0 9 (nI f)) 10 0 0 0) y1 y3 y4
      have hp := fail_pos h0 hf
      refine ⟨-10 - nI f, pvI S1 9 0 9 (nI f), pvI S2 10 0 24 (nI f), ?_, ?_, ?_⟩
      · rw [hcl, if_neg h0, ev_answ n hp.1 hp.2, dc_bd_s]
      · unfold f_X10_start
        rw [dc_let_q, qv_isClass_t n e3 hc (by omega), dc_bd_s, dc_if_n (by decide), s1, dc_bd_s, dc_if_n (fun q => by
          rw [Int32.le_iff_toInt_le, show ((0 : Int32).toInt) = 0 from rfl] at q
          omega)]
        rfl
      · exact SIM_of2 (T := pvI (pvI S1 9 0 9 (nI f)) 10 0 0 0) x1 x2 x3 h2 x5 ⟨x6.1, x6.2.1, x6.2.2.1, x6.2.2.2.1, rfl⟩ x7 y1 y2 y3 y5 y6 h4 hb s3 s2
theorem op_value {b : Nat} {S : lh_S} (n : Nat) (hn : 100 ≤ n) (h : SIM b S) (x : Int32) : ∃ v S1 S2, f_X9_value n S 0 x = some (v, S1) ∧ f_X10_value n S1 0 x = some (v, S2) ∧ SIM b S2 := by
  obtain ⟨L, F, C, O, N, hX, hL, hF, hC, hO, hN, hS, qX, qL, qF, qC, qO, qN, hI, hb⟩ := id h
  have ht : SIM b (pvI S 10 0 0 0) := SIM_thrown h
  have h40 := hC.1
  have e1 : gvI (pvI S 10 0 0 0) 10 0 17 = nI (tc_n C) := qC.1
  rcases ix2 x (n := tc_n C) (by omega) with hx | ⟨c, hc, rfl⟩
  · refine ⟨-9223372036854775806, S, pvI S 10 0 0 0, ?_, ?_, ht⟩
    · unfold f_X9_value
      rw [dc_nn_e (cx_r93 hX), ev_classAt_f n hC hx, dc_bd_s, dc_if_p rfl]
    · unfold f_X10_value
      rw [dc_let_q, qv_isClass_f n e1 hx (by omega), dc_bd_s, dc_if_p rfl]
  · obtain ⟨f, C', S1, hf, hn', h1, h2, h3, h4, h5⟩ := both_start (b := b) n hn hX hL hF hC hO hN hS qX qL qF qC qO qN hI hb hc
    have x1 := K5_CX h3 hX
    have x2 := K5_CL h3 hL
    have x3 := K5_CF h3 hF
    have x5 := K5_CO h3 hO
    have x6 := K5_CN h3 hN
    have x7 := K5_CS h3 hS
    have y1 := K5_QX h3 qX
    have y2 := K5_QL h3 qL
    have y3 := K5_QF h3 qF
    have y4 := K5_QC h3 qC
    have y5 := K5_QO h3 qO
    have y6 := K5_QN h3 qN
    have hcl : f_X9_value n S 0 (nI c) = dc_bd (f_X9_answered n S1 0 (if f = 0 then 1 else -10 - nI f)) fun r13 S14 => dc_if (r13 = (1 : Int32)) (some (gvJ S14 5 c 5, S14)) (dc_let ((-9223372036854775808 : Int64) - r13.toInt64) fun v18 => some (v18, S14)) := by
      unfold f_X9_value
      rw [dc_nn_e (cx_r93 hX), ev_classAt_t n hX hC hc, dc_bd_s, dc_if_n (fun q => by cases q), h1, dc_bd_s]
      rfl
    by_cases h0 : f = 0
    · subst h0
      have e3 : gvI (pvI S1 10 0 0 0) 10 0 17 = nI (tc_n C) := y4.1
      obtain ⟨S2, s1, s2, s3⟩ := h5 (pvI S1 10 0 0 0) y1 y3 y4
      have hc2 : c < tc_n C' := by rw [hn']; exact hc
      refine ⟨tc_sv C' c, S1, S2, ?_, ?_, ?_⟩
      · rw [hcl, if_pos rfl, ev_answ1 n (by decide), dc_bd_s, dc_if_p rfl, (h2.2.2.2.2 c hc2).2.2.2.2.2]
      · unfold f_X10_value
        rw [dc_let_q, qv_isClass_t n e3 hc (by omega), dc_bd_s, dc_if_n (by decide), s1, dc_bd_s, dc_if_p (by decide), dc_nn_e (qx_23 (KR_QX s3 (show QX (pvI S1 10 0 0 0) from y1))), dc_gd_n (by rw [ql_53 (KR_QX s3 (show QX (pvI S1 10 0 0 0) from y1))]; exact ix_in (by omega) (by omega)), ix_c (by omega), (s2.2.1 c hc2).2.2.2.2.2]
      · exact SIM_of (S := S) (T := pvI S1 10 0 0 0) x1 x2 x3 h2 x5 x6 x7 y1 y2 y3 y5 y6 h4 hb s3 s2
    · have e3 : gvI (pvI (pvI S1 9 0 9 (nI f)) 10 0 0 0) 10 0 17 = nI (tc_n C) := y4.1
      obtain ⟨S2, s1, s2, s3⟩ := h5 (pvI (pvI S1 9 0 9 (nI f)) 10 0 0 0) y1 y3 y4
      have hp := fail_pos h0 hf
      have hne : ¬ (-10 - nI f : Int32) = 1 := fun q => by
        have q := congrArg Int32.toInt q
        rw [Int32.toInt_sub, show ((-10 : Int32).toInt) = -10 from rfl, show ((1 : Int32).toInt) = 1 from rfl] at q
        simp only [Int.bmod] at q
        omega
      refine ⟨-9223372036854775808 - (-10 - nI f).toInt64, pvI S1 9 0 9 (nI f), pvI S2 10 0 24 (nI f), ?_, ?_, ?_⟩
      · rw [hcl, if_neg h0, ev_answ n hp.1 hp.2, dc_bd_s, dc_if_n hne, dc_let_q]
      · unfold f_X10_value
        rw [dc_let_q, qv_isClass_t n e3 hc (by omega), dc_bd_s, dc_if_n (by decide), s1, dc_bd_s, dc_if_n (fun q => by
          rw [Int32.le_iff_toInt_le, show ((0 : Int32).toInt) = 0 from rfl] at q
          omega)]
        rfl
      · exact SIM_of2 (T := pvI (pvI S1 9 0 9 (nI f)) 10 0 0 0) x1 x2 x3 h2 x5 ⟨x6.1, x6.2.1, x6.2.2.1, x6.2.2.2.1, rfl⟩ x7 y1 y2 y3 y5 y6 h4 hb s3 s2
