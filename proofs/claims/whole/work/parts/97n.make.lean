theorem op_make {b : Nat} {S : lh_S} (n : Nat) (hn : 100 ≤ n) (h : SIM b S) (x : Int32) : ∃ v S1 S2, f_X9_make n S 0 x = some (v, S1) ∧ f_X10_make n S1 0 x = some (v, S2) ∧ SIM b S2 := by
  obtain ⟨L, F, C, O, N, hX, hL, hF, hC, hO, hN, hS, qX, qL, qF, qC, qO, qN, hI, hb⟩ := id h
  have ht : SIM b (pvI S 10 0 0 0) := SIM_thrown h
  have h40 := hC.1
  have h60 := hO.1
  have e1 : gvI (pvI S 10 0 0 0) 10 0 17 = nI (tc_n C) := qC.1
  have e2 : gvI (pvI S 10 0 0 0) 10 0 36 = nI (to_n O) := qO.1
  rcases ix2 x (n := tc_n C) (by omega) with hx | ⟨c, hc, rfl⟩
  · refine ⟨-2, S, pvI S 10 0 0 0, ?_, ?_, ht⟩
    · unfold f_X9_make
      rw [dc_nn_e (cx_r93 hX), ev_classAt_f n hC hx, dc_bd_s, dc_if_p rfl]
    · unfold f_X10_make
      rw [dc_let_q, qv_isClass_f n e1 hx (by omega), dc_bd_s, dc_if_p rfl]
  by_cases hfull : to_n O = 60
  · refine ⟨-5, S, pvI S 10 0 0 0, ?_, ?_, ht⟩
    · unfold f_X9_make
      rw [dc_nn_e (cx_r93 hX), ev_classAt_t n hX hC hc, dc_bd_s, dc_if_n (fun q => by cases q), hO.2.1, dc_if_n (by rw [hfull]; decide)]
    · unfold f_X10_make
      rw [dc_let_q, qv_isClass_t n e1 hc (by omega), dc_bd_s, dc_if_n (by decide), e2, dc_if_p (by rw [hfull]; rfl)]
  obtain ⟨f, C', S1, hf, hn', h1, h2, h3, h4, h5⟩ := both_start (b := b) n hn hX hL hF hC hO hN hS qX qL qF qC qO qN hI hb hc
  have x1 := K5_CX h3 hX
  have x2 := K5_CL h3 hL
  have x3 := K5_CF h3 hF
  have x5 := K5_CO h3 hO
  have x6 := K5_CN h3 hN
  have x7 := K5_CS h3 hS
  have y1 := K5_QX h3 qX
  have y2 := K5_QL h3 qL
  have y3 := K5_QF h3 qF
  have y4 := K5_QC h3 qC
  have y5 := K5_QO h3 qO
  have y6 := K5_QN h3 qN
  have hlt : nI (to_n O) < (60 : Int32) := nI_lt (b := 60) (by omega) (by omega)
  have hne60 : ∀ T, gvI T 10 0 36 = nI (to_n O) → ¬ gvI T 10 0 36 = (60 : Int32) := fun T hT q => hfull ((nI_eq (b := 60) (by omega) (by omega)).mp (hT.symm.trans q))
  by_cases h0 : f = 0
  · subst h0
    generalize ho : to_n O = o at *
    obtain ⟨S3, hS3⟩ : ∃ S3, S3 = pvI (pvR S1 22 0 o (some c)) 9 0 5 (nI o + 1) := ⟨_, rfl⟩
    have z1 : QX S3 := by rw [hS3]; exact y1
    have z3 : QF S3 F := by rw [hS3]; exact y3
    have z4 : QC S3 C F := by rw [hS3]; exact y4
    have z5 : QO S3 O := by rw [hS3]; exact y5
    obtain ⟨S2, s1, s2, s3⟩ := h5 (pvI S3 10 0 0 0) z1 z3 z4
    have z36 : gvI S2 10 0 36 = nI o := by
      have := (KR_QO s3 (show QO (pvI S3 10 0 0 0) O from z5)).1
      rw [ho] at this
      exact this
    refine ⟨nI o, S3, pvI (pvI S2 67 0 o (nI c)) 10 0 36 (nI o + 1), ?_, ?_, ?_⟩
    · unfold f_X9_make
      have a5 : gvI S1 9 0 5 = nI o := by rw [x5.2.1, ho]
      rw [dc_nn_e (cx_r93 hX), ev_classAt_t n hX hC hc, dc_bd_s, dc_if_n (fun q => by cases q), hO.2.1, ho, dc_if_p hlt, h1, dc_bd_s, if_pos rfl, ev_answ1 n (by decide), dc_bd_s, dc_if_p rfl, dc_nn_e (cx_r94 x1), a5, dc_gd_n (by rw [cx_l22 x1]; exact ix_in (by omega) (by omega)), ix_c (by omega), dc_let_q, show gvI (pvR S1 22 0 o (some c)) 9 0 5 = nI o from a5, dc_let_q, dc_let_q, hS3]
    · unfold f_X10_make
      have e3 : gvI (pvI S3 10 0 0 0) 10 0 17 = nI (tc_n C) := z4.1
      have e4 : gvI (pvI S3 10 0 0 0) 10 0 36 = nI o := by rw [← ho]; exact z5.1
      have w1 := KR_QX s3 (show QX (pvI S3 10 0 0 0) from z1)
      rw [dc_let_q, qv_isClass_t n e3 hc (by omega), dc_bd_s, dc_if_n (by decide), dc_if_n (hne60 _ e4), s1, dc_bd_s, dc_if_p (by decide), dc_nn_e (qx_37 w1), z36, dc_gd_n (by rw [ql_67 w1]; exact ix_in (by omega) (by omega)), ix_c (by omega), dc_let_q, show gvI (pvI S2 67 0 o (nI c)) 10 0 36 = nI o from z36, dc_let_q, dc_let_q, gI_s, dc_let_q, nI_1, sub1]
    · subst hS3
      have kk : KR (pvI (pvI (pvR S1 22 0 o (some c)) 9 0 5 (nI o + 1)) 10 0 0 0) S2 := s3
      have a1 := KR_CX kk (show CX (pvI (pvI (pvR S1 22 0 o (some c)) 9 0 5 (nI o + 1)) 10 0 0 0) from x1)
      have a2 := KR_CL kk (show CL (pvI (pvI (pvR S1 22 0 o (some c)) 9 0 5 (nI o + 1)) 10 0 0 0) L from x2)
      have a3 := KR_CF kk (show CF (pvI (pvI (pvR S1 22 0 o (some c)) 9 0 5 (nI o + 1)) 10 0 0 0) F from x3)
      have a4 := KR_CC kk (show CC (pvI (pvI (pvR S1 22 0 o (some c)) 9 0 5 (nI o + 1)) 10 0 0 0) C' from h2)
      have a6 := KR_CN kk (show CN (pvI (pvI (pvR S1 22 0 o (some c)) 9 0 5 (nI o + 1)) 10 0 0 0) N from x6)
      have a7 := KR_CS kk (show CS (pvI (pvI (pvR S1 22 0 o (some c)) 9 0 5 (nI o + 1)) 10 0 0 0) from x7)
      have b1 := KR_QX kk (show QX (pvI (pvI (pvR S1 22 0 o (some c)) 9 0 5 (nI o + 1)) 10 0 0 0) from y1)
      have b2 := KR_QL kk (show QL (pvI (pvI (pvR S1 22 0 o (some c)) 9 0 5 (nI o + 1)) 10 0 0 0) L from y2)
      have b3 := KR_QF kk (show QF (pvI (pvI (pvR S1 22 0 o (some c)) 9 0 5 (nI o + 1)) 10 0 0 0) F from y3)
      have b5 := KR_QO kk (show QO (pvI (pvI (pvR S1 22 0 o (some c)) 9 0 5 (nI o + 1)) 10 0 0 0) O from y5)
      have b6 := KR_QN kk (show QN (pvI (pvI (pvR S1 22 0 o (some c)) 9 0 5 (nI o + 1)) 10 0 0 0) N from y6)
      have cO : CO (pvI (pvI (pvR S1 22 0 o (some c)) 9 0 5 (nI o + 1)) 10 0 0 0) (o + 1, va_up (to_cl O) o c, to_r O, to_rc O, to_rs O, to_ri O) := by
        refine ⟨show o + 1 ≤ 60 by omega, ?_, fun q hq => ?_, x5.2.2.2.1, x5.2.2.2.2.1, ?_, x5.2.2.2.2.2.2⟩
        · show gvI (pvI (pvR S1 22 0 o (some c)) 9 0 5 (nI o + 1)) 9 0 5 = nI (o + 1)
          rw [gI_s]
          exact nI_1 o
        · have hq : q < o + 1 := hq
          show gvR (pvR S1 22 0 o (some c)) 22 0 q = some (va_up (to_cl O) o c q)
          unfold va_up
          by_cases hqo : q = o
          · subst hqo
            rw [gR_s, if_pos rfl]
          · rw [gR_q hqo, if_neg hqo]
            exact x5.2.2.1 q (by omega)
        · exact x5.2.2.2.2.2.1
      have a5 := KR_CO kk cO
      refine ⟨L, F, C', (o + 1, va_up (to_cl O) o c, to_r O, to_rc O, to_rs O, to_ri O), N, a1, a2, a3, a4, a5, a6, a7, b1, b2, b3, s2, ?_, b6, ?_, hb⟩
      · refine ⟨?_, fun q hq => ?_, b5.2.2.1, b5.2.2.2.1, b5.2.2.2.2.1, b5.2.2.2.2.2⟩
        · show gvI (pvI (pvI S2 67 0 o (nI c)) 10 0 36 (nI o + 1)) 10 0 36 = nI (o + 1)
          rw [gI_s]
          exact nI_1 o
        · have hq : q < o + 1 := hq
          show gvI (pvI S2 67 0 o (nI c)) 67 0 q = nI (va_up (to_cl O) o c q)
          unfold va_up
          by_cases hqo : q = o
          · subst hqo
            rw [gI_s, if_pos rfl]
          · rw [gI_q hqo, if_neg hqo]
            exact b5.2.1 q (by omega)
      · obtain ⟨i1, i2, i3, i4, i5, i6, i7, i8, i9⟩ := h4
        refine ⟨i1, i2, i3, i4, i5, i6, i7, fun q hq => ?_, i9⟩
        have hq : q < o + 1 := hq
        show va_up (to_cl O) o c q < tc_n C'
        unfold va_up
        split
        · rw [hn']; exact hc
        · exact i8 q (by omega)
  · obtain ⟨S2, s1, s2, s3⟩ := h5 (pvI (pvI S1 9 0 9 (nI f)) 10 0 0 0) y1 y3 y4
    have hp := fail_pos h0 hf
    have hne : ¬ (-10 - nI f : Int32) = 1 := fun q => by
      have q := congrArg Int32.toInt q
      rw [Int32.toInt_sub, show ((-10 : Int32).toInt) = -10 from rfl, show ((1 : Int32).toInt) = 1 from rfl] at q
      simp only [Int.bmod] at q
      omega
    refine ⟨-10 - nI f, pvI S1 9 0 9 (nI f), pvI S2 10 0 24 (nI f), ?_, ?_, ?_⟩
    · unfold f_X9_make
      rw [dc_nn_e (cx_r93 hX), ev_classAt_t n hX hC hc, dc_bd_s, dc_if_n (fun q => by cases q), hO.2.1, dc_if_p hlt, h1, dc_bd_s, if_neg h0, ev_answ n hp.1 hp.2, dc_bd_s, dc_if_n hne]
    · unfold f_X10_make
      have e3 : gvI (pvI (pvI S1 9 0 9 (nI f)) 10 0 0 0) 10 0 17 = nI (tc_n C) := y4.1
      have e4 : gvI (pvI (pvI S1 9 0 9 (nI f)) 10 0 0 0) 10 0 36 = nI (to_n O) := y5.1
      rw [dc_let_q, qv_isClass_t n e3 hc (by omega), dc_bd_s, dc_if_n (by decide), dc_if_n (hne60 _ e4), s1, dc_bd_s, dc_if_n (fun q => by
        rw [Int32.le_iff_toInt_le, show ((0 : Int32).toInt) = 0 from rfl] at q
        omega)]
      rfl
    · exact SIM_of2 (T := pvI (pvI S1 9 0 9 (nI f)) 10 0 0 0) x1 x2 x3 h2 x5 ⟨x6.1, x6.2.1, x6.2.2.1, x6.2.2.2.1, rfl⟩ x7 y1 y2 y3 y5 y6 h4 hb s3 s2
