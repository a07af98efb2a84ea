def tD (n : Nat) (S : lh_S) (d l f nm v : Nat) : Option (Unit × lh_S) :=
  dc_nn (gvR S 10 0 3) fun x48 =>
  dc_gd (nI f < 0 ∨ gvL S 33 x48 ≤ f) (
  dc_if ((gvI S 33 x48 f) = nI nm) (
  dc_nn (gvR S 10 0 14) fun x52 =>
  dc_gd (nI v < 0 ∨ gvL S 44 x52 ≤ (nI v).toNatClampNeg) (
  dc_if ((gvI S 44 x52 (nI v).toNatClampNeg) ≤ 0) (
  dc_nn (gvR S 10 0 15) fun x56 =>
  dc_gd (nI v < 0 ∨ gvL S 45 x56 ≤ (nI v).toNatClampNeg) (
  dc_if ((gvI S 45 x56 (nI v).toNatClampNeg) = 0) (
  dc_if (nI nm = 0) (
  dc_bd (f_X10_makes n S 0 (nI l) (nI f) (-1 : Int32)) fun _r77 S78 =>
  some ((), S78)) (
  dc_gd (nI v < 0 ∨ gvL S 45 x56 ≤ (nI v).toNatClampNeg) (
  dc_let (pvI S 45 x56 (nI v).toNatClampNeg (vp_nar .boolean (1 : Int32))) fun S63 =>
  dc_nn (gvR S63 10 0 30) fun x66 =>
  dc_gd (nI d < 0 ∨ gvL S63 60 x66 ≤ d) (
  dc_let (pvI S63 60 x66 d (1 : Int32)) fun S68 =>
  dc_nn (gvR S68 10 0 4) fun x71 =>
  dc_gd (nI f < 0 ∨ gvL S68 34 x71 ≤ f) (
  dc_bd (f_X10_push n S68 0 (0 : Int32) (nI l) (gvI S68 34 x71 f)) fun _r73 S74 =>
  some ((), S74)))))) (
  dc_bd (f_X10_ends n S 0 (6 : Int32)) fun _r82 S83 =>
  some ((), S83)))) (
  dc_bd (f_X10_ends n S 0 (3 : Int32)) fun _r87 S88 =>
  some ((), S88)))) (
  dc_bd (f_X10_ends n S 0 (2 : Int32)) fun _r92 S93 =>
  some ((), S93)))
/-- a DEFINE begins -/
theorem D0 {S : lh_S} {L : GL} {F : GF} {C : GC} {O : GO} {N : GN} {d l nm f u : Nat} {st : Nat → QFR} (n : Nat) (h : QR S L F C O N (d + 1) (va_up st d (1, l, f, 0, u))) (hd : d < 700) (hB : KB L C) (h30 : tf_n F ≤ 30) (hl : l < tl_n L) (hf : f < tf_n F) (hnm : tf_nm F f = nm) (h4 : nm < 40) (hin : tf_in F f < 40) :
    (fao L F l f ≠ 0 → ∃ S', QR S' L F C O N d st ∧ (∀ c, QA S' (fao L F l f) c) ∧ rGo n 1 S S') ∧
    (fao L F l f = 0 → nm ≠ 0 → d + 1 < 700 → ∃ S', QR S' (dS L l nm true) F C O N (d + 2) (va_up (va_up st d (1, l, f, 1, u)) (d + 1) (0, l, tf_ab F f, 0, 0)) ∧ rGo n 1 S S') ∧
    (fao L F l f = 0 → nm = 0 → ∀ S', f_X10_makes n S 0 (nI l) (nI f) (-1 : Int32) = some ((), S') → rGo n 1 S S') := by
  obtain ⟨qX, qL, qF, qC, qO, qN, qT⟩ := id h
  obtain ⟨t1, t2, t3, t4, t5, t6⟩ := QT_top qT
  have h8 := hB.2.2.2
  have f5 := qF.2.1 f hf
  rw [hnm] at f5
  have hoc := KB_oc hB hl h4
  have y := qL.2.2.2 l nm (by omega) h4
  have y2 := y.2.1
  have y3 := y.2.2.1
  rw [if_pos hl] at y2
  have go : ∀ S', f_X10_oneDefining n S 0 (nI d) = some ((), S') → rGo n 1 S S' := fun S' e => rGo_def qX qT hd e
  have pre : f_X10_oneDefining n S 0 (nI d) = dc_if ((5 : Int32) ≤ nI nm) (tD n S d l f nm (40 * l + nm)) (dc_if (nI l ≤ 0) (tD n S d l f nm (40 * l + nm)) (
      dc_bd (f_X10_ends n S 0 (4 : Int32)) fun r147 S148 =>
      some ((), S148))) := by
    unfold f_X10_oneDefining
    rw [ix_c (j := d) (by omega), dc_nn_e (qx_28 qX), dc_gd_n (gg (ql_58 qX) hd (by omega)), dc_nn_e (qx_29 qX), dc_gd_n (gg (ql_59 qX) hd (by omega)), t2, t3, ix_c (j := f) (by omega), dc_nn_e (qx_2 qX), dc_gd_n (gg (ql_32 qX) (by omega) (by omega)), f5.1, dc_let_q, dc_let_q, at40, dc_nn_e (qx_30 qX), dc_gd_n (gg (ql_60 qX) hd (by omega)), t4, dc_if_p (by decide)]
    rfl
  have fv : fao L F l f = if nm < 5 ∧ l ≠ 0 then 4 else if tf_in F f ≠ nm then 2 else if tl_kn L l nm ≠ none then 3 else if tl_dg L l nm = true then 6 else 0 := by
    unfold fao
    rw [hnm]
  by_cases h5 : nm < 5 ∧ l ≠ 0
  · rw [if_pos h5] at fv
    refine ⟨fun _ => ?_, fun q => by omega, fun q => by omega⟩
    obtain ⟨S', e, hR, hA⟩ := QR_ends n h (e := 4) (by decide)
    rw [fv]
    refine ⟨S', hR, hA, go S' ?_⟩
    rw [pre, dc_if_n (show ¬ (5 : Int32) ≤ nI nm from nI_ge (b := 5) h5.1 (by omega)), dc_if_n (nI_nle (by omega) (by omega)), show f_X10_ends n S 0 (4 : Int32) = some ((), S') from e, dc_bd_s]
  · rw [if_neg h5] at fv
    have pre2 : f_X10_oneDefining n S 0 (nI d) = tD n S d l f nm (40 * l + nm) := by
      rw [pre]
      by_cases hlt : nm < 5
      · rw [dc_if_n (show ¬ (5 : Int32) ≤ nI nm from nI_ge (b := 5) hlt (by omega)), dc_if_p]
        have : l = 0 := by omega
        rw [this]
        decide
      · rw [dc_if_p (show (5 : Int32) ≤ nI nm from nI_le (a := 5) (by omega) (by omega))]
    unfold tD at pre2
    rw [dc_nn_e (qx_3 qX), dc_gd_n (gg (ql_33 qX) (by omega) (by omega)), f5.2.1] at pre2
    by_cases hi : tf_in F f = nm
    · rw [if_neg (fun q => q hi)] at fv
      rw [dc_if_p (by rw [hi]), dc_nn_e (qx_14 qX), ix_c (by omega), dc_gd_n (gg (ql_44 qX) (by omega) (by omega)), y2] at pre2
      by_cases hk : tl_kn L l nm = none
      · rw [if_neg (fun q => q hk)] at fv
        rw [hk, dc_if_p (by decide), dc_nn_e (qx_15 qX), dc_gd_n (gg (ql_45 qX) (by omega) (by omega)), y3] at pre2
        by_cases hg : tl_dg L l nm = true
        · rw [if_pos hg] at fv
          refine ⟨fun _ => ?_, fun q => by omega, fun q => by omega⟩
          obtain ⟨S', e, hR, hA⟩ := QR_ends n h (e := 6) (by decide)
          rw [fv]
          refine ⟨S', hR, hA, go S' ?_⟩
          rw [pre2, if_pos ⟨hl, hg⟩, dc_if_n (by decide), show f_X10_ends n S 0 (6 : Int32) = some ((), S') from e, dc_bd_s]
        · rw [if_neg hg] at fv
          rw [if_neg (fun q => hg q.2), dc_if_p rfl] at pre2
          refine ⟨fun q => absurd fv q, fun _ hz hd2 => ?_, fun _ hz S' e => go S' ?_⟩
          · obtain ⟨S1, g1⟩ : ∃ S1, S1 = pvI S 45 0 (40 * l + nm) 1 := ⟨_, rfl⟩
            have hR1 : QR S1 (dS L l nm true) F C O N (d + 1) (va_up st d (1, l, f, 0, u)) := by rw [g1]; exact QR_d true h hl h4
            obtain ⟨S2, g2⟩ : ∃ S2, S2 = pvI S1 60 0 d (nI 1) := ⟨_, rfl⟩
            have hR2 : QR S2 (dS L l nm true) F C O N (d + 1) (va_up st d (1, l, f, 1, u)) := by rw [g2]; exact QR_state 1 hR1
            obtain ⟨S', e, hR3⟩ := QR_push n hR2 hd2 0 l (tf_ab F f)
            refine ⟨S', hR3, go S' ?_⟩
            rw [pre2, dc_if_n (nI_ne0 (by omega) (by omega)), dc_gd_n (gg (ql_45 qX) (by omega) (by omega)), show vp_nar .boolean (1 : Int32) = 1 from by decide, ← g1, dc_let_q, dc_nn_e (qx_30 hR1.1), dc_gd_n (gg (ql_60 hR1.1) hd (by omega)), show pvI S1 60 0 d 1 = S2 from g2.symm, dc_let_q, dc_nn_e (qx_4 hR2.1), dc_gd_n (gg (ql_34 hR2.1) (by omega) (by omega)), (hR2.2.2.1.2.1 f hf).2.2.1, show f_X10_push n S2 0 (0 : Int32) (nI l) (nI (tf_ab F f)) = some ((), S') from e, dc_bd_s]
          · rw [pre2, hz, dc_if_p (by decide), e, dc_bd_s]
      · rw [if_pos hk] at fv
        refine ⟨fun _ => ?_, fun q => by omega, fun q => by omega⟩
        obtain ⟨S', e, hR, hA⟩ := QR_ends n h (e := 3) (by decide)
        rw [fv]
        refine ⟨S', hR, hA, go S' ?_⟩
        have h0 : 0 < oc (tl_kn L l nm) := by
          cases hc : tl_kn L l nm with
          | none => exact absurd hc hk
          | some c => simp [oc]
        rw [pre2, dc_if_n (nI_nle h0 (by omega)), show f_X10_ends n S 0 (3 : Int32) = some ((), S') from e, dc_bd_s]
    · rw [if_pos hi] at fv
      refine ⟨fun _ => ?_, fun q => by omega, fun q => by omega⟩
      obtain ⟨S', e, hR, hA⟩ := QR_ends n h (e := 2) (by decide)
      rw [fv]
      refine ⟨S', hR, hA, go S' ?_⟩
      rw [pre2, dc_if_n (fun q => hi ((nI_eq (by omega) (by omega)).mp q)), show f_X10_ends n S 0 (2 : Int32) = some ((), S') from e, dc_bd_s]
/-- the class above has come, or not -/
theorem D1 {S : lh_S} {L : GL} {F : GF} {C : GC} {O : GO} {N : GN} {d l nm f u : Nat} {st : Nat → QFR} (n : Nat) (h : QR S L F C O N (d + 1) (va_up st d (1, l, f, 1, u))) (hd : d < 700) (hB : KB L C) (h30 : tf_n F ≤ 30) (hl : l < tl_n L) (hf : f < tf_n F) (hnm : tf_nm F f = nm) (h4 : nm < 40) {e c : Nat} (he : e ≤ 100) (hA : QA S e c) :
    (e = 1 → ∃ S', QR S' (dS L l nm false) F C O N d st ∧ (∀ c, QA S' 2 c) ∧ rGo n 1 S S') ∧
    (e ≠ 0 → e ≠ 1 → ∃ S', QR S' (dS L l nm false) F C O N d st ∧ (∀ c, QA S' e c) ∧ rGo n 1 S S') ∧
    (e = 0 → c < tc_n C → tc_fl C c < tf_n F → tf_fi F (tc_fl C c) = true → ∃ S', QR S' (dS L l nm false) F C O N d st ∧ (∀ c, QA S' 7 c) ∧ rGo n 1 S S') ∧
    (e = 0 → c < tc_n C → tc_fl C c < tf_n F → tf_fi F (tc_fl C c) = false → ∃ S1, QR S1 (dS L l nm false) F C O N (d + 1) (va_up st d (1, l, f, 1, u)) ∧ ∀ S', f_X10_makes n S1 0 (nI l) (nI f) (nI c) = some ((), S') → rGo n 1 S S') := by
  obtain ⟨qX, qL, qF, qC, qO, qN, qT⟩ := id h
  obtain ⟨t1, t2, t3, t4, t5, t6⟩ := QT_top qT
  have h8 := hB.2.2.2
  have h40 := hB.2.2.1
  have f5 := qF.2.1 f hf
  rw [hnm] at f5
  obtain ⟨S1, g1⟩ : ∃ S1, S1 = pvI S 45 0 (40 * l + nm) 0 := ⟨_, rfl⟩
  have hR : QR S1 (dS L l nm false) F C O N (d + 1) (va_up st d (1, l, f, 1, u)) := by rw [g1]; exact QR_d false h hl h4
  have a1 : gvI S1 10 0 34 = nI e := by rw [g1]; exact hA.1
  have a2 : e = 0 → gvI S1 10 0 33 = nI c := by intro q; rw [g1]; exact hA.2 q
  have go : ∀ S', f_X10_oneDefining n S 0 (nI d) = some ((), S') → rGo n 1 S S' := fun S' e => rGo_def qX qT hd e
  have pre : f_X10_oneDefining n S 0 (nI d) = dc_if (nI e ≤ 0) (
      dc_nn (gvR S1 10 0 20) fun x24 =>
      dc_gd ((gvI S1 10 0 33) < 0 ∨ gvL S1 50 x24 ≤ ((gvI S1 10 0 33)).toNatClampNeg) (
      dc_nn (gvR S1 10 0 6) fun x26 =>
      dc_gd ((gvI S1 50 x24 ((gvI S1 10 0 33)).toNatClampNeg) < 0 ∨ gvL S1 36 x26 ≤ ((gvI S1 50 x24 ((gvI S1 10 0 33)).toNatClampNeg)).toNatClampNeg) (
      dc_if ((gvI S1 36 x26 ((gvI S1 50 x24 ((gvI S1 10 0 33)).toNatClampNeg)).toNatClampNeg) = 0) (
      dc_bd (f_X10_makes n S1 0 (nI l) (nI f) (gvI S1 10 0 33)) fun r29 S30 =>
      some ((), S30)) (
      dc_bd (f_X10_ends n S1 0 (7 : Int32)) fun r33 S34 =>
      some ((), S34))))) (
      dc_if (nI e = (1 : Int32)) (
      dc_bd (f_X10_ends n S1 0 (2 : Int32)) fun r42 S43 =>
      some ((), S43)) (
      dc_bd (f_X10_ends n S1 0 (nI e)) fun r38 S39 =>
      some ((), S39))) := by
    unfold f_X10_oneDefining
    rw [ix_c (j := d) (by omega), dc_nn_e (qx_28 qX), dc_gd_n (gg (ql_58 qX) hd (by omega)), dc_nn_e (qx_29 qX), dc_gd_n (gg (ql_59 qX) hd (by omega)), t2, t3, ix_c (j := f) (by omega), dc_nn_e (qx_2 qX), dc_gd_n (gg (ql_32 qX) (by omega) (by omega)), f5.1, dc_let_q, dc_let_q, at40, dc_nn_e (qx_30 qX), dc_gd_n (gg (ql_60 qX) hd (by omega)), t4, dc_if_n (by decide), dc_nn_e (qx_15 qX), ix_c (j := 40 * l + nm) (by omega), dc_gd_n (gg (ql_45 qX) (by omega) (by omega)), show vp_nar .boolean (0 : Int32) = 0 from by decide, ← g1, dc_let_q, a1]
  refine ⟨fun h1 => ?_, fun h0 h1 => ?_, fun h0 hcn hfl hfi => ?_, fun h0 hcn hfl hfi => ?_⟩
  · obtain ⟨S', x, hR2, hA2⟩ := QR_ends n hR (e := 2) (by decide)
    refine ⟨S', hR2, hA2, go S' ?_⟩
    rw [pre, h1, dc_if_n (by decide), dc_if_p (by decide), show f_X10_ends n S1 0 (2 : Int32) = some ((), S') from x, dc_bd_s]
  · obtain ⟨S', x, hR2, hA2⟩ := QR_ends n hR (e := e) h0
    refine ⟨S', hR2, hA2, go S' ?_⟩
    rw [pre, dc_if_n (nI_nle (by omega) (by omega)), dc_if_n (show ¬ nI e = (1 : Int32) from fun q => h1 ((nI_eq (a := e) (b := 1) (by omega) (by omega)).mp q)), x, dc_bd_s]
  · obtain ⟨S', x, hR2, hA2⟩ := QR_ends n hR (e := 7) (by decide)
    refine ⟨S', hR2, hA2, go S' ?_⟩
    rw [pre, h0, dc_if_p (by decide), a2 h0, dc_nn_e (qx_20 hR.1), ix_c (by omega), dc_gd_n (gg (ql_50 hR.1) (by omega) (by omega)), dc_nn_e (qx_6 hR.1), (hR.2.2.2.1.2.1 c hcn).2.2.1, ix_c (by omega), dc_gd_n (gg (ql_36 hR.1) (by omega) (by omega)), (hR.2.2.1.2.1 _ hfl).2.2.2.2, hfi, if_pos rfl, dc_if_n (by decide), show f_X10_ends n S1 0 (7 : Int32) = some ((), S') from x, dc_bd_s]
  · refine ⟨S1, hR, fun S' x => go S' ?_⟩
    rw [pre, h0, dc_if_p (by decide), a2 h0, dc_nn_e (qx_20 hR.1), ix_c (by omega), dc_gd_n (gg (ql_50 hR.1) (by omega) (by omega)), dc_nn_e (qx_6 hR.1), (hR.2.2.2.1.2.1 c hcn).2.2.1, ix_c (by omega), dc_gd_n (gg (ql_36 hR.1) (by omega) (by omega)), (hR.2.2.1.2.1 _ hfl).2.2.2.2, hfi, if_neg (by decide), dc_if_p rfl, x, dc_bd_s]
