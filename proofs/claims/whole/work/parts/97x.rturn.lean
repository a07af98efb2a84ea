theorem QR_new {S : lh_S} {L : GL} {F : GF} {C : GC} {O : GO} {N : GN} {d : Nat} {st : Nat → QFR} (l f nm : Nat) (ab : Option Nat) (p3 : Int32) (hp : p3 = nI (oc ab) - 1) (hnm : tf_nm F f = nm) (h40 : tc_n C < 40) (h : QR S L F C O N d st) : QR (pvI (pvI (pvI (pvI (pvI S 10 0 17 (nI (tc_n C + 1))) 48 0 (tc_n C) (nI nm)) 49 0 (tc_n C) (nI l)) 50 0 (tc_n C) (nI f)) 51 0 (tc_n C) p3) L F (cS C l f ab) O N d st := by
  obtain ⟨qX, qL, qF, qC, qO, qN, qT⟩ := h
  obtain ⟨c1, c2, c3⟩ := qC
  refine ⟨qX, qL, qF, ⟨rfl, fun c hc => ?_, fun c hc1 hc2 => ?_⟩, qO, qN, qT⟩
  · have hc : c < tc_n C + 1 := hc
    have e1 : tc_ld (cS C l f ab) c = va_up (tc_ld C) (tc_n C) l c := rfl
    have e2 : tc_fl (cS C l f ab) c = va_up (tc_fl C) (tc_n C) f c := rfl
    have e3 : tc_ab (cS C l f ab) c = va_up (tc_ab C) (tc_n C) ab c := rfl
    have e4 : tc_st (cS C l f ab) c = va_up (tc_st C) (tc_n C) 0 c := rfl
    have e5 : tc_sv (cS C l f ab) c = va_up (tc_sv C) (tc_n C) 0 c := rfl
    rw [e1, e2, e3, e4, e5]
    by_cases hck : c = tc_n C
    · subst hck
      rw [va_s, va_s, va_s, va_s, va_s, hnm]
      have z := c3 (tc_n C) (by omega) (by omega)
      refine ⟨?_, ?_, ?_, ?_, ?_, ?_⟩ <;> simp [gI_pI, gJ_pI, z.1, z.2, hp]
      rfl
    · rw [va_n hck, va_n hck, va_n hck, va_n hck, va_n hck]
      obtain ⟨y1, y2, y3, y4, y5, y6⟩ := c2 c (by omega)
      refine ⟨?_, ?_, ?_, ?_, ?_, ?_⟩ <;> simp [gI_pI, gJ_pI, hck, y1, y2, y3, y4, y5, y6]
  · have hc1 : tc_n C + 1 ≤ c := hc1
    exact c3 c (by omega) hc2
theorem QR_makes {S : lh_S} {L : GL} {F : GF} {C : GC} {O : GO} {N : GN} {d l f nm : Nat} {fr : QFR} {st : Nat → QFR} (n : Nat) (hn : 100 ≤ n) (h : QR S L F C O N (d + 1) (va_up st d fr)) (hB : KB L C) (hl : l < tl_n L) (hf : f < tf_n F) (h30 : tf_n F ≤ 30) (hnm : tf_nm F f = nm) (h4 : nm < 40) (ab : Option Nat) (p3 : Int32) (hp : p3 = nI (oc ab) - 1) :
    (brd L l nm none = true → ∃ S', f_X10_makes n S 0 (nI l) (nI f) p3 = some ((), S') ∧ QR S' L F C O N d st ∧ ∀ c, QA S' 3 c) ∧
    (brd L l nm none = false → tc_n C = 40 → ∃ S', f_X10_makes n S 0 (nI l) (nI f) p3 = some ((), S') ∧ QR S' L F C O N d st ∧ ∀ c, QA S' 12 c) ∧
    (brd L l nm none = false → tc_n C < 40 → ∃ S', f_X10_makes n S 0 (nI l) (nI f) p3 = some ((), S') ∧ QR S' (kS L l nm (tc_n C)) F (cS C l f ab) O N d st ∧ QA S' 0 (tc_n C)) := by
  obtain ⟨qX, qL, qF, qC, qO, qN, qT⟩ := id h
  have h8 := hB.2.2.2
  have f5 := qF.2.1 f hf
  rw [hnm] at f5
  refine ⟨fun hb => ?_, fun hb hf => ?_, fun hb hk => ?_⟩
  · obtain ⟨S', e, hR⟩ := QR_ends n h (e := 3) (by decide)
    refine ⟨S', ?_, hR⟩
    unfold f_X10_makes
    rw [dc_nn_e (qx_2 qX), dc_gd_n (by rw [ql_32 qX]; exact ix_in (by omega) (by omega)), ix_c (by omega), f5.1, qv_barred_n n hn qX qL hB hl h4, hb, if_pos rfl, dc_bd_s, dc_if_n (by decide), show (3 : Int32) = nI 3 from rfl, e, dc_bd_s]
  · obtain ⟨S', e, hR⟩ := QR_ends n h (e := 12) (by decide)
    refine ⟨S', ?_, hR⟩
    unfold f_X10_makes
    rw [dc_nn_e (qx_2 qX), dc_gd_n (by rw [ql_32 qX]; exact ix_in (by omega) (by omega)), ix_c (by omega), f5.1, qv_barred_n n hn qX qL hB hl h4, hb, if_neg (by decide), dc_bd_s, dc_if_p rfl, qC.1, hf, dc_if_p (by decide), show (12 : Int32) = nI 12 from rfl, e, dc_bd_s]
  · obtain ⟨S1, h1⟩ : ∃ S1, S1 = pvI S 10 0 17 (nI (tc_n C + 1)) := ⟨_, rfl⟩
    obtain ⟨S2, h2⟩ : ∃ S2, S2 = pvI S1 48 0 (tc_n C) (nI nm) := ⟨_, rfl⟩
    obtain ⟨S3, h3⟩ : ∃ S3, S3 = pvI S2 49 0 (tc_n C) (nI l) := ⟨_, rfl⟩
    obtain ⟨S4, h4'⟩ : ∃ S4, S4 = pvI S3 50 0 (tc_n C) (nI f) := ⟨_, rfl⟩
    obtain ⟨S5, h5⟩ : ∃ S5, S5 = pvI S4 51 0 (tc_n C) p3 := ⟨_, rfl⟩
    have q1 : QX S1 := by rw [h1]; exact qX
    have q2 : QX S2 := by rw [h2]; exact q1
    have q3 : QX S3 := by rw [h3]; exact q2
    have q4 : QX S4 := by rw [h4']; exact q3
    have q5 : QX S5 := by rw [h5]; exact q4
    have hR := QR_new l f nm ab p3 hp hnm hk h
    rw [← h1, ← h2, ← h3, ← h4', ← h5] at hR
    have hR2 := QR_k (tc_n C) hR hl h4
    obtain ⟨S', e, hR3⟩ := QR_gives n hR2 (tc_n C)
    refine ⟨S', ?_, hR3⟩
    unfold f_X10_makes
    rw [dc_nn_e (qx_2 qX), dc_gd_n (by rw [ql_32 qX]; exact ix_in (by omega) (by omega)), ix_c (by omega), f5.1, qv_barred_n n hn qX qL hB hl h4, hb, if_neg (by decide), dc_bd_s, dc_if_p rfl, qC.1, dc_if_n (show ¬ nI (tc_n C) = (40 : Int32) from fun q => by have := (nI_eq (a := tc_n C) (b := 40) (by omega) (by omega)).mp q; omega), nI_1, dc_let_q, ← h1, dc_let_q, ix_c (by omega), dc_nn_e (qx_18 q1), dc_gd_n (gg (ql_48 q1) hk (by omega)), ← h2, dc_let_q, dc_nn_e (qx_19 q2), dc_gd_n (gg (ql_49 q2) hk (by omega)), ← h3, dc_let_q, dc_nn_e (qx_20 q3), dc_gd_n (gg (ql_50 q3) hk (by omega)), ← h4', dc_let_q, dc_nn_e (qx_21 q4), dc_gd_n (gg (ql_51 q4) hk (by omega)), ← h5, dc_let_q, at40, dc_let_q, dc_let_q, dc_nn_e (qx_14 q5), ix_c (by omega), dc_gd_n (gg (ql_44 q5) (by omega) (by omega)), dc_let_q, e, dc_bd_s]
/-- a LOAD begins -/
theorem R0 {S : lh_S} {L : GL} {F : GF} {C : GC} {O : GO} {N : GN} {d l nm u : Nat} {st : Nat → QFR} (n : Nat) (h : QR S L F C O N (d + 1) (va_up st d (0, l, nm, 0, u))) (hd : d < 700) (hB : KB L C) (hb : tn_ld N ≤ 1000000000) (hl : l < tl_n L) (hnm : nm < 40) :
    (∀ c, tl_kn L l nm = some c → ∃ S', QR S' L F C O (nt N l nm) d st ∧ QA S' 0 c ∧ rGo n 1 S S') ∧
    (tl_kn L l nm = none → tl_dg L l nm = true → ∃ S', QR S' L F C O (nt N l nm) d st ∧ (∀ c, QA S' 6 c) ∧ rGo n 1 S S') ∧
    (tl_kn L l nm = none → tl_dg L l nm = false → ∃ S', QR S' L F C O (nt N l nm) (d + 1) (va_up st d (0, l, nm, 1, u)) ∧ rGo n 1 S S') := by
  obtain ⟨qX, qL, qF, qC, qO, qN, qT⟩ := id h
  obtain ⟨t1, t2, t3, t4, t5, t6⟩ := QT_top qT
  have h8 := hB.2.2.2
  have hoc := KB_oc hB hl hnm
  obtain ⟨Sa, ha⟩ : ∃ Sa, Sa = pvI S 56 0 (tn_ld N % 30) ((64 : Int32) * nI l + nI nm) := ⟨_, rfl⟩
  obtain ⟨Sb, hb'⟩ : ∃ Sb, Sb = pvI Sa 10 0 25 (nI (tn_ld N + 1)) := ⟨_, rfl⟩
  obtain ⟨Sc, hc'⟩ : ∃ Sc, Sc = pvI Sb 60 0 d (nI 1) := ⟨_, rfl⟩
  have hRb := QR_note l nm h
  rw [← ha, ← hb'] at hRb
  have hRc := QR_state 1 hRb
  rw [← hc'] at hRc
  have qXb := hRb.1
  have qXc := hRc.1
  have y := hRc.2.1.2.2.2 l nm (by omega) hnm
  have y2 := y.2.1
  have y3 := y.2.2.1
  rw [if_pos hl] at y2
  have ea : gvI Sa 10 0 25 = nI (tn_ld N) := by rw [ha]; exact qN.1
  have go : ∀ S', f_X10_oneLoad n S 0 (nI d) = some ((), S') → rGo n 1 S S' := fun S' e => rGo_load qX qT hd e
  have pre : f_X10_oneLoad n S 0 (nI d) = dc_if (nI (oc (tl_kn L l nm)) ≤ 0) (
      dc_if ((if l < tl_n L ∧ tl_dg L l nm = true then (1 : Int32) else 0) = 0) (
      some ((), Sc)) (
      dc_bd (f_X10_ends n Sc 0 (6 : Int32)) fun r452 S453 =>
      some ((), S453))) (
      dc_bd (f_X10_gives n Sc 0 (nI (oc (tl_kn L l nm)) - 1)) fun r459 S460 =>
      some ((), S460)) := by
    unfold f_X10_oneLoad
    rw [ix_c (j := d) (by omega), dc_nn_e (qx_28 qX), dc_gd_n (gg (ql_58 qX) hd (by omega)), dc_nn_e (qx_29 qX), dc_gd_n (gg (ql_59 qX) hd (by omega)), t2, t3, dc_let_q, dc_let_q, at40, dc_nn_e (qx_30 qX), dc_gd_n (gg (ql_60 qX) hd (by omega)), t4, dc_if_p (by decide), qN.1, rem30 (by omega), dc_let_q, dc_let_q, dc_let_q, dc_nn_e (qx_26 qX), ix_c (j := tn_ld N % 30) (by omega), dc_gd_n (gg (ql_56 qX) (by omega) (by omega)), ← ha, dc_let_q, ea, nI_1, dc_let_q, ← hb', dc_let_q, dc_nn_e (qx_30 qXb), dc_gd_n (gg (ql_60 qXb) hd (by omega)), show (1 : Int32) = nI 1 from rfl, ← hc', dc_let_q, dc_nn_e (qx_14 qXc), ix_c (j := 40 * l + nm) (by omega), dc_gd_n (gg (ql_44 qXc) (by omega) (by omega)), y2, dc_nn_e (qx_15 qXc), dc_gd_n (gg (ql_45 qXc) (by omega) (by omega)), y3, dc_gd_n (gg (ql_44 qXc) (by omega) (by omega)), dc_let_q]
    rfl
  refine ⟨fun c hc => ?_, fun hk hdg => ?_, fun hk hdg => ?_⟩
  · obtain ⟨S', e, hR, hA⟩ := QR_gives n hRc c
    refine ⟨S', hR, hA, go S' ?_⟩
    have hc40 := hB.1 l nm c hl hnm hc
    have h40 := hB.2.2.1
    rw [pre, hc, show oc (some c) = c + 1 from rfl, dc_if_n (nI_nle (n := c + 1) (by omega) (by omega)), nI_pred, e, dc_bd_s]
  · obtain ⟨S', e, hR, hA⟩ := QR_ends n hRc (e := 6) (by decide)
    refine ⟨S', hR, hA, go S' ?_⟩
    rw [pre, hk, dc_if_p (by decide), if_pos ⟨hl, hdg⟩, dc_if_n (by decide), show (6 : Int32) = nI 6 from rfl, e, dc_bd_s]
  · refine ⟨Sc, hRc, go Sc ?_⟩
    rw [pre, hk, dc_if_p (by decide), hdg, if_neg (fun q => by cases q.2), dc_if_p rfl]
