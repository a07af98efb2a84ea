theorem CX_10 {S S1 : lh_S} (h : lh_sm10 S S1) (q : CX S) : CX S1 := by
  unfold CX at q ⊢
  rw [(h 9 (by decide)).2.2.2.2, (h 3 (by decide)).2.2.2.2, (h 4 (by decide)).2.2.2.2, (h 6 (by decide)).2.2.2.2, (h 21 (by decide)).2.1, (h 22 (by decide)).2.1, (h 23 (by decide)).2.1, (h 24 (by decide)).2.1, (h 16 (by decide)).2.1, (h 17 (by decide)).2.1, (h 18 (by decide)).2.1, (h 19 (by decide)).2.1]
  exact q
theorem CL_10 {S S1 : lh_S} {L : GL} (h : lh_sm10 S S1) (q : CL S L) : CL S1 L := by
  unfold CL at q ⊢
  rw [(h 2 (by decide)).1, (h 12 (by decide)).1, (h 13 (by decide)).1, (h 14 (by decide)).1, (h 15 (by decide)).1, (h 3 (by decide)).2.2.1, (h 16 (by decide)).2.2.2.2, (h 2 (by decide)).2.2.1, (h 2 (by decide)).2.2.2.2, (h 12 (by decide)).2.1, (h 13 (by decide)).2.1, (h 14 (by decide)).2.1, (h 15 (by decide)).2.1, (h 12 (by decide)).2.2.2.2, (h 13 (by decide)).2.2.2.2, (h 14 (by decide)).2.2.1, (h 15 (by decide)).2.2.1]
  exact q
theorem CF_10 {S S1 : lh_S} {F : GF} (h : lh_sm10 S S1) (q : CF S F) : CF S1 F := by
  unfold CF at q ⊢
  rw [(h 1 (by decide)).1, (h 11 (by decide)).1, (h 9 (by decide)).2.2.1, (h 21 (by decide)).2.2.2.2, (h 1 (by decide)).2.2.1, (h 1 (by decide)).2.2.2.2, (h 11 (by decide)).2.1, (h 11 (by decide)).2.2.2.2, (h 0 (by decide)).1, (h 0 (by decide)).2.2.1, (h 0 (by decide)).2.2.2.1]
  exact q
theorem CC_10 {S S1 : lh_S} {C : GC} (h : lh_sm10 S S1) (q : CC S C) : CC S1 C := by
  unfold CC at q ⊢
  rw [(h 5 (by decide)).1, (h 4 (by decide)).2.2.1, (h 17 (by decide)).2.2.2.2, (h 5 (by decide)).2.2.1, (h 5 (by decide)).2.2.2.2, (h 5 (by decide)).2.2.2.1]
  exact q
theorem CO_10 {S S1 : lh_S} {O : GO} (h : lh_sm10 S S1) (q : CO S O) : CO S1 O := by
  unfold CO at q ⊢
  rw [(h 9 (by decide)).2.2.1, (h 22 (by decide)).2.2.2.2, (h 7 (by decide)).1, (h 20 (by decide)).1, (h 23 (by decide)).2.2.2.2, (h 7 (by decide)).2.2.2.2, (h 20 (by decide)).2.1, (h 20 (by decide)).2.2.1]
  exact q
theorem CN_10 {S S1 : lh_S} {N : GN} (h : lh_sm10 S S1) (q : CN S N) : CN S1 N := by
  unfold CN at q ⊢
  rw [(h 6 (by decide)).2.2.1, (h 19 (by decide)).2.2.1, (h 9 (by decide)).2.2.1]
  exact q
theorem CS_10 {S S1 : lh_S} (h : lh_sm10 S S1) (q : CS S) : CS S1 := by
  unfold CS at q ⊢
  rw [(h 4 (by decide)).2.2.1, (h 8 (by decide)).1, (h 18 (by decide)).2.2.2.2]
  exact q
theorem settle_run {n : Nat} {L : GL} {F : GF} {O : GO} {dg : Nat → Nat → Bool} {kn kn' : Nat → Nat → Option Nat} {C C' : GC} {N N' : GN} {dp k : Nat} {fr : FR} {v' : Int32} {S1 : lh_S} {st : Nat → FR} (hn : 100000 ≤ n) (hk : k ≤ 20000) (hdp : dp ≤ 321) (hC : CRUN n L F O dg kn C N dp fr kn' C' N' k v') (h1 : CR S1 (LL L kn dg) F C O N 1 (va_up st 0 fr)) : ∃ S2, f_X4_settle n S1 0 = some (v', S2) ∧ CR S2 (LL L kn' dg) F C' O N' 0 st := by
  obtain ⟨S2, h2, g2⟩ := hC S1 0 st (-1) (by omega) h1
  refine ⟨S2, ?_, h2⟩
  have g3 := g2 (n - k) 0 (by omega)
  rw [show k + (n - k) = n by omega] at g3
  unfold f_X4_settle
  refine g3.trans ?_
  obtain ⟨g, hg⟩ : ∃ g, n - k = g + 1 := ⟨n - k - 1, by omega⟩
  rw [hg, f_X4_settle_L4, dc_if_n (show ¬ (1000000 : Int32) ≤ nI (0 + k) from nI_ge (b := 1000000) (by omega) (by omega)), h2.2.2.2.2.2.2.1, dc_if_p (by decide)]
theorem goes_run {n : Nat} {L : GL} {F : GF} {O : GO} {dg : Nat → Nat → Bool} {kn kn' : Nat → Nat → Option Nat} {C C' : GC} {N N' : GN} {dq k e c : Nat} {fr : QFR} {S1 : lh_S} {st : Nat → QFR} (p1 p2 p3 : Int32) (hn : 100000 ≤ n) (hk : k ≤ 20000) (hdq : dq ≤ 700) (he : e ≤ 100) (hR : RRUN n L F O dg kn C N dq fr kn' C' N' k e c) (h1 : QR S1 (LL L kn dg) F C O N 1 (va_up st 0 fr)) : ∃ S2, f_X10_goes_L17 n 0 p1 p2 p3 n S1 = some (ans e c, if e = 0 then S2 else pvI S2 10 0 24 (nI e)) ∧ QR S2 (LL L kn' dg) F C' O N' 0 st := by
  obtain ⟨S2, h2, a2, g2⟩ := hR S1 0 st (by omega) h1
  refine ⟨S2, ?_, h2⟩
  have g3 := g2 (n - k) p1 p2 p3
  rw [show k + (n - k) = n by omega] at g3
  refine g3.trans ?_
  obtain ⟨g, hg⟩ : ∃ g, n - k = g + 1 := ⟨n - k - 1, by omega⟩
  rw [hg, f_X10_goes_L17, h2.2.2.2.2.2.2.1, dc_if_p (by decide), a2.1]
  by_cases e0 : e = 0
  · rw [if_pos e0, show ans e c = nI c from if_pos e0, e0, dc_if_p (by decide), a2.2 e0]
  · rw [if_neg e0, show ans e c = -10 - nI e from if_neg e0, dc_if_n (nI_nle (by omega) (by omega))]
    rfl
theorem ev_ansd {S : lh_S} (n : Nat) {e c : Nat} (he : e ≤ 100) (hc : c < 100) : f_X9_answered n S 0 (ans e c) = some (ans e c, if e = 0 then S else pvI S 9 0 9 (nI e)) := by
  by_cases e0 : e = 0
  · rw [if_pos e0, show ans e c = nI c from if_pos e0]
    exact ev_answ1 n (by rw [nI_toInt (by omega)]; omega)
  · rw [if_neg e0, show ans e c = -10 - nI e from if_neg e0]
    exact ev_answ n (by rw [nI_toInt (by omega)]; omega) (by rw [nI_toInt (by omega)]; omega)
def stC : Nat → FR := fun _ => (0, 0, none, 0)
def stQ : Nat → QFR := fun _ => (0, 0, 0, 0, 0)
theorem CS_CT {S : lh_S} : CS S ↔ CT S 0 stC := by
  constructor
  · intro h
    exact ⟨h.1, Nat.zero_le _, h.2.1, h.2.2.1, h.2.2.2, fun j hj => by omega⟩
  · intro h
    exact ⟨h.1, h.2.2.1, h.2.2.2.1, h.2.2.2.2.1⟩
theorem SIM_end {b : Nat} {S1 S2 T U : lh_S} {L : GL} {F : GF} {C : GC} {O : GO} {N : GN} {e : Nat} (h1 : CR S1 L F C O N 0 stC) (h2 : QR S2 L F C O N 0 stQ) (hT : T = if e = 0 then S1 else pvI S1 9 0 9 (nI e)) (hU : U = if e = 0 then S2 else pvI S2 10 0 24 (nI e)) (hs : lh_sm10 T U) (hI : IV L F C O) (hb : tn_ld N ≤ b) : SIM b U ∧ gvN T 8 ≤ 321 ∧ gvN T 5 ≤ 40 := by
  obtain ⟨hX, hL, hF, hC, hO, hN, hT'⟩ := h1
  obtain ⟨qX, qL, qF, qC, qO, qN, qT⟩ := h2
  have hS := CS_CT.mpr hT'
  have h58 : gvN S1 8 ≤ 321 ∧ gvN S1 5 ≤ 40 := ⟨hS.2.1, by rw [hC.2.1]; exact hC.1⟩
  by_cases e0 : e = 0
  · rw [if_pos e0] at hT hU
    subst hT hU
    exact ⟨⟨L, F, C, O, N, CX_10 hs hX, CL_10 hs hL, CF_10 hs hF, CC_10 hs hC, CO_10 hs hO, CN_10 hs hN, CS_10 hs hS, qX, qL, qF, qC, qO, qN, hI, hb⟩, h58⟩
  · rw [if_neg e0] at hT hU
    have a1 : CX T := by rw [hT]; exact hX
    have a2 : CL T L := by rw [hT]; exact hL
    have a3 : CF T F := by rw [hT]; exact hF
    have a4 : CC T C := by rw [hT]; exact hC
    have a5 : CO T O := by rw [hT]; exact hO
    have a6 : CN T (tn_ld N, tn_rg N, nI e) := by rw [hT]; exact ⟨hN.1, hN.2.1, hN.2.2.1, hN.2.2.2.1, rfl⟩
    have a7 : CS T := by rw [hT]; exact hS
    have b1 : QX U := by rw [hU]; exact qX
    have b2 : QL U L := by rw [hU]; exact qL
    have b3 : QF U F := by rw [hU]; exact qF
    have b4 : QC U C F := by rw [hU]; exact qC
    have b5 : QO U O := by rw [hU]; exact qO
    have b6 : QN U (tn_ld N, tn_rg N, nI e) := by rw [hU]; exact ⟨qN.1, qN.2.1, rfl⟩
    refine ⟨⟨L, F, C, O, (tn_ld N, tn_rg N, nI e), CX_10 hs a1, CL_10 hs a2, CF_10 hs a3, CC_10 hs a4, CO_10 hs a5, CN_10 hs a6, CS_10 hs a7, b1, b2, b3, b4, b5, b6, hI, hb⟩, ?_⟩
    rw [hT]
    exact h58
theorem IV_end {L : GL} {F : GF} {C C' : GC} {O : GO} {kn' : Nat → Nat → Option Nat} (hI : IV L F C O) (hJ : JV L F C' kn') (hmo : tc_n C ≤ tc_n C') : IV (LL L kn' (tl_dg L)) F C' O := by
  refine ⟨hI.1, hI.2.1, hJ.1, hI.2.2.2.1, hI.2.2.2.2.1, hI.2.2.2.2.2.1, hJ.2.1, fun o ho => ?_, fun q hq => ?_⟩
  · have := hI.2.2.2.2.2.2.2.1 o ho
    omega
  · have := hI.2.2.2.2.2.2.2.2 q hq
    omega
theorem PP_320 {L : GL} {l : Nat} (dg : Nat → Nat → Bool) (h8 : tl_n L ≤ 8) (hl : l < tl_n L) : PP dg l ≤ 320 := by
  have := cp_le dg (l + 1)
  unfold PP
  omega
theorem op_load {b : Nat} {S : lh_S} (n : Nat) (hn : 100000 ≤ n) (hb2 : b + 20000 ≤ 1000000000) (h : SIM b S) (x y : Int32) : ∃ v S1 S2, f_X9_load n S 0 x y = some (v, S1) ∧ f_X10_load n S1 0 x y = some (v, S2) ∧ SIM (b + 20000) S2 ∧ gvN S1 8 ≤ 321 ∧ gvN S1 5 ≤ 40 := by
  obtain ⟨L, F, C, O, N, hX, hL, hF, hC, hO, hN, hS, qX, qL, qF, qC, qO, qN, hI, hb⟩ := id h
  have h8 := hL.2.1
  have h58 : gvN S 8 ≤ 321 ∧ gvN S 5 ≤ 40 := ⟨hS.2.1, by rw [hC.2.1]; exact hC.1⟩
  have e1 : gvI (pvI S 10 0 0 0) 10 0 10 = nI (tl_n L) := qL.1
  have ht : SIM (b + 20000) (pvI S 10 0 0 0) := SIM_thrown ⟨L, F, C, O, N, hX, hL, hF, hC, hO, hN, hS, qX, qL, qF, qC, qO, qN, hI, by omega⟩
  rcases ix2 x (n := tl_n L) (by omega) with hx | ⟨l, hl, rfl⟩
  · refine ⟨-2, S, pvI S 10 0 0 0, ?_, ?_, ht, h58⟩
    · unfold f_X9_load
      rw [dc_nn_e (cx_r92 hX), ev_at_f n hL hx, dc_bd_s, dc_if_p rfl]
    · unfold f_X10_load
      rw [dc_let_q, qv_isLoader_f n e1 hx (by omega), dc_bd_s, dc_if_p rfl]
  rcases ix2 y (n := 40) (by omega) with hy | ⟨nm, hnm, rfl⟩
  · refine ⟨-3, S, pvI S 10 0 0 0, ?_, ?_, ht, h58⟩
    · unfold f_X9_load
      rw [dc_nn_e (cx_r92 hX), ev_at_t n hX hL hl, dc_bd_s, dc_if_n (fun q => by cases q), ev_isName_f n hy, dc_bd_s, dc_if_p rfl]
    · unfold f_X10_load
      rw [dc_let_q, qv_isLoader_t n e1 hl (by omega), dc_bd_s, dc_if_n (by decide), qv_isName_f n hy, dc_bd_s, dc_if_p rfl]
  have hFX : FX L F := ⟨hL.1, hL.2.1, hI.1, hI.2.1, hI.2.2.2.1, hI.2.2.2.2.1, hF.1⟩
  have hJ : JV L F C (tl_kn L) := ⟨hI.2.2.1, hI.2.2.2.2.2.2.1, hC.1⟩
  have hPP := PP_320 (tl_dg L) h8 hl
  obtain ⟨e, c, kn', C', N', k, kr, ⟨hJ', hmo, he, hc, hec, hnl, hlf⟩, hk, hkr, -, hCr, hRr⟩ := LD_all (n := n) O (by omega) hFX (PP (tl_dg L) l + 1) (tl_dg L) l nm (tl_kn L) C N (by omega) hl hnm hJ (by omega)
  have hR0 : CR S (LL L (tl_kn L) (tl_dg L)) F C O N 0 stC := ⟨hX, hL, hF, hC, hO, hN, CS_CT.mp hS⟩
  obtain ⟨So, xo, ho⟩ := CR_open n hR0 (by omega) l nm none 0
  obtain ⟨S1, x1, h1⟩ := settle_run hn (by omega) (by omega) hCr ho
  obtain ⟨T, hT⟩ : ∃ T, T = if e = 0 then S1 else pvI S1 9 0 9 (nI e) := ⟨_, rfl⟩
  have hc9 : f_X9_load n S 0 (nI l) (nI nm) = some (ans e c, T) := by
    unfold f_X9_load f_X4_loadBy
    rw [dc_nn_e (cx_r92 hX), ev_at_t n hX hL hl, dc_bd_s, dc_if_n (fun q => by cases q), ev_isName_t n hnm, dc_bd_s, dc_if_n (by decide), dc_nn_e (cx_r93 hX), show f_X4_open n S 0 (some l) (nI nm) none (0 : Int32) = some (-1, So) from xo, dc_bd_s, x1, dc_bd_s, dc_bd_s, ev_ansd n he hc, dc_bd_s, hT]
  have s9 := k_X9_load hc9
  have qXT : QX T := QX_9 s9 qX
  have qLT : QL T L := QL_9 s9 qL
  have qFT : QF T F := QF_9 s9 qF
  have qCT : QC T C F := QC_9 s9 qC
  have qOT : QO T O := QO_9 s9 qO
  have qNT : QN T N := QN_9 s9 qN
  obtain ⟨T3, hT3⟩ : ∃ T3, T3 = pvI (pvI (pvI T 10 0 0 0) 10 0 32 (0 : Int32)) 10 0 34 (0 : Int32) := ⟨_, rfl⟩
  have hQ0 : QR T3 (LL L (tl_kn L) (tl_dg L)) F C O N 0 stQ := by
    rw [hT3]
    exact ⟨qXT, qLT, qFT, qCT, qOT, qNT, rfl, fun j hj => by omega⟩
  obtain ⟨Tp, xp, hp⟩ := QR_push n hQ0 (by omega) 0 l nm
  obtain ⟨S2, x2, h2⟩ := goes_run (0 : Int32) (nI l) (nI nm) hn (by omega) (by omega) he hRr hp
  obtain ⟨U, hU⟩ : ∃ U, U = if e = 0 then S2 else pvI S2 10 0 24 (nI e) := ⟨_, rfl⟩
  have e2 : gvI (pvI T 10 0 0 0) 10 0 10 = nI (tl_n L) := qLT.1
  have hc10 : f_X10_load n T 0 (nI l) (nI nm) = some (ans e c, U) := by
    unfold f_X10_load f_X10_goes
    rw [dc_let_q, qv_isLoader_t n e2 hl (by omega), dc_bd_s, dc_if_n (by decide), qv_isName_t n hnm, dc_bd_s, dc_if_n (by decide), dc_let_q, dc_let_q, ← hT3, show f_X10_push n T3 0 (0 : Int32) (nI l) (nI nm) = some ((), Tp) from xp, dc_bd_s, x2, dc_bd_s, hU]
  have hE := SIM_end (b := b + 20000) h1 h2 hT hU (k_X10_load hc10) (IV_end hI hJ' hmo) (by omega)
  exact ⟨ans e c, T, U, hc9, hc10, hE⟩
