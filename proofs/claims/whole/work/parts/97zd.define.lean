theorem op_define {b : Nat} {S : lh_S} (n : Nat) (hn : 100000 ≤ n) (hb2 : b + 20000 ≤ 1000000000) (h : SIM b S) (x y : Int32) : ∃ v S1 S2, f_X9_define n S 0 x y = some (v, S1) ∧ f_X10_define n S1 0 x y = some (v, S2) ∧ SIM (b + 20000) S2 ∧ gvN S1 8 ≤ 321 ∧ gvN S1 5 ≤ 40 := by
  obtain ⟨L, F, C, O, N, hX, hL, hF, hC, hO, hN, hS, qX, qL, qF, qC, qO, qN, hI, hb⟩ := id h
  have h8 := hL.2.1
  have h58 : gvN S 8 ≤ 321 ∧ gvN S 5 ≤ 40 := ⟨hS.2.1, by rw [hC.2.1]; exact hC.1⟩
  have e1 : gvI (pvI S 10 0 0 0) 10 0 10 = nI (tl_n L) := qL.1
  have ht : SIM (b + 20000) (pvI S 10 0 0 0) := SIM_thrown ⟨L, F, C, O, N, hX, hL, hF, hC, hO, hN, hS, qX, qL, qF, qC, qO, qN, hI, by omega⟩
  have e9 : gvI (pvI S 10 0 0 0) 10 0 1 = nI (tf_n F) := qF.1
  have h30 := hF.1
  rcases ix2 x (n := tl_n L) (by omega) with hx | ⟨l, hl, rfl⟩
  · rcases ix2 y (n := tf_n F) (by omega) with hy | ⟨f, hf, rfl⟩
    · refine ⟨-2, S, pvI S 10 0 0 0, ?_, ?_, ht, h58⟩
      · unfold f_X9_define
        rw [dc_nn_e (cx_r92 hX), ev_at_f n hL hx, dc_bd_s, ev_fileAt_f n hF hy, dc_bd_s, dc_if_p rfl]
      · unfold f_X10_define
        rw [dc_let_q, qv_isLoader_f n e1 hx (by omega), dc_bd_s, dc_if_p rfl]
    · refine ⟨-2, S, pvI S 10 0 0 0, ?_, ?_, ht, h58⟩
      · unfold f_X9_define
        rw [dc_nn_e (cx_r92 hX), ev_at_f n hL hx, dc_bd_s, ev_fileAt_t n hX hF hf, dc_bd_s, dc_if_p rfl]
      · unfold f_X10_define
        rw [dc_let_q, qv_isLoader_f n e1 hx (by omega), dc_bd_s, dc_if_p rfl]
  rcases ix2 y (n := tf_n F) (by omega) with hy | ⟨f, hf, rfl⟩
  · refine ⟨-2, S, pvI S 10 0 0 0, ?_, ?_, ht, h58⟩
    · unfold f_X9_define
      rw [dc_nn_e (cx_r92 hX), ev_at_t n hX hL hl, dc_bd_s, ev_fileAt_f n hF hy, dc_bd_s, dc_if_n (fun q => by cases q), dc_if_p rfl]
    · unfold f_X10_define
      rw [dc_let_q, qv_isLoader_t n e1 hl (by omega), dc_bd_s, dc_if_n (by decide), qv_isFile_f n e9 hy (by omega), dc_bd_s, dc_if_p rfl]
  have hFX : FX L F := ⟨hL.1, hL.2.1, hI.1, hI.2.1, hI.2.2.2.1, hI.2.2.2.2.1, hF.1⟩
  have hJ : JV L F C (tl_kn L) := ⟨hI.2.2.1, hI.2.2.2.2.2.2.1, hC.1⟩
  have hPP := PP_320 (tl_dg L) h8 hl
  have hfn := hI.2.2.2.2.1 f hf
  have hDF : DF n L F O (tl_dg L) l f (tl_kn L) C N (PP (tl_dg L) l) := by
    refine DF_of (by omega) hFX hJ hl hf (fun hd => PP_pos hfn.1 hd) (fun hd => ?_)
    have hup : PP (lh_u2 (tl_dg L) l (tf_nm F f) true) l + 1 = PP (tl_dg L) l := cp_up hd hfn.1 (l + 1) (by omega)
    have := LD_all (n := n) O (by omega) hFX (PP (lh_u2 (tl_dg L) l (tf_nm F f) true) l + 1) (lh_u2 (tl_dg L) l (tf_nm F f) true) l (tf_ab F f) (tl_kn L) C N (by omega) hl hfn.2.2 hJ (by omega)
    rw [show PP (lh_u2 (tl_dg L) l (tf_nm F f) true) l = PP (tl_dg L) l - 1 by omega] at this
    exact this
  obtain ⟨e, c, kn', C', N', k, kr, ⟨hJ', hmo, he, hc, hec, hnl, hlf⟩, hk, hkr, -, -, hCr, hRr⟩ := hDF
  have hR0 : CR S (LL L (tl_kn L) (tl_dg L)) F C O N 0 stC := ⟨hX, hL, hF, hC, hO, hN, CS_CT.mp hS⟩
  obtain ⟨So, xo, ho⟩ := CR_open n hR0 (by omega) l (tf_nm F f) (some f) 5
  obtain ⟨S1, x1, h1⟩ := settle_run hn (by omega) (by omega) hCr ho
  obtain ⟨T, hT⟩ : ∃ T, T = if e = 0 then S1 else pvI S1 9 0 9 (nI e) := ⟨_, rfl⟩
  have hc9 : f_X9_define n S 0 (nI l) (nI f) = some (ans e c, T) := by
    unfold f_X9_define f_X4_defineBy
    rw [dc_nn_e (cx_r92 hX), ev_at_t n hX hL hl, dc_bd_s, ev_fileAt_t n hX hF hf, dc_bd_s, dc_if_n (fun q => by cases q), dc_if_n (fun q => by cases q), dc_nn_e (cx_r93 hX), dc_nn_s, (hF.2.2.2.2.1 f hf).2.1, show f_X4_open n S 0 (some l) (nI (tf_nm F f)) (some f) (5 : Int32) = some (-1, So) from xo, dc_bd_s, x1, dc_bd_s, dc_bd_s, ev_ansd n he hc, dc_bd_s, hT]
  have s9 := k_X9_define hc9
  have qXT : QX T := QX_9 s9 qX
  have qLT : QL T L := QL_9 s9 qL
  have qFT : QF T F := QF_9 s9 qF
  have qCT : QC T C F := QC_9 s9 qC
  have qOT : QO T O := QO_9 s9 qO
  have qNT : QN T N := QN_9 s9 qN
  obtain ⟨T3, hT3⟩ : ∃ T3, T3 = pvI (pvI (pvI T 10 0 0 0) 10 0 32 (0 : Int32)) 10 0 34 (0 : Int32) := ⟨_, rfl⟩
  have hQ0 : QR T3 (LL L (tl_kn L) (tl_dg L)) F C O N 0 stQ := by
    rw [hT3]
    exact ⟨qXT, qLT, qFT, qCT, qOT, qNT, rfl, fun j hj => by omega⟩
  obtain ⟨Tp, xp, hp⟩ := QR_push n hQ0 (by omega) 1 l f
  obtain ⟨S2, x2, h2⟩ := goes_run (1 : Int32) (nI l) (nI f) hn (by omega) (by omega) he hRr hp
  obtain ⟨U, hU⟩ : ∃ U, U = if e = 0 then S2 else pvI S2 10 0 24 (nI e) := ⟨_, rfl⟩
  have e3 : gvI (pvI T 10 0 0 0) 10 0 1 = nI (tf_n F) := qFT.1
  have e2 : gvI (pvI T 10 0 0 0) 10 0 10 = nI (tl_n L) := qLT.1
  have hc10 : f_X10_define n T 0 (nI l) (nI f) = some (ans e c, U) := by
    unfold f_X10_define f_X10_goes
    rw [dc_let_q, qv_isLoader_t n e2 hl (by omega), dc_bd_s, dc_if_n (by decide), qv_isFile_t n e3 hf (by omega), dc_bd_s, dc_if_n (by decide), dc_let_q, dc_let_q, ← hT3, show f_X10_push n T3 0 (1 : Int32) (nI l) (nI f) = some ((), Tp) from xp, dc_bd_s, x2, dc_bd_s, hU]
  have hE := SIM_end (b := b + 20000) h1 h2 hT hU (k_X10_define hc10) (IV_end hI hJ' hmo) (by omega)
  exact ⟨ans e c, T, U, hc9, hc10, hE⟩
