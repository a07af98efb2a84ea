def tS (n : Nat) (S : lh_S) (d l v u : Nat) : Option (Unit × lh_S) :=
  dc_nn (gvR S 10 0 13) fun x337 =>
  dc_gd (nI v < 0 ∨ gvL S 43 x337 ≤ (nI v).toNatClampNeg) (
  dc_if ((gvI S 43 x337 (nI v).toNatClampNeg) ≤ 0) (
  dc_gd (nI d < 0 ∨ gvL S 61 0 ≤ d) (
  dc_let (nI u + (1 : Int32)) fun v342 =>
  dc_gd (nI d < 0 ∨ gvL S 61 0 ≤ d) (
  dc_let (pvI S 61 0 d v342) fun S344 =>
  some ((), S344)))) (
  dc_gd (nI d < 0 ∨ gvL S 60 0 ≤ d) (
  dc_let (pvI S 60 0 d (3 : Int32)) fun S348 =>
  dc_nn (gvR S348 10 0 13) fun x351 =>
  dc_gd (nI v < 0 ∨ gvL S348 43 x351 ≤ (nI v).toNatClampNeg) (
  dc_let ((gvI S348 43 x351 (nI v).toNatClampNeg) - (1 : Int32)) fun v353 =>
  dc_bd (f_X10_push n S348 0 (1 : Int32) (nI l) v353) fun _r354 S355 =>
  some ((), S355)))))
def tP (n : Nat) (S : lh_S) (d l nm : Nat) : Option (Unit × lh_S) :=
  dc_gd (nI d < 0 ∨ gvL S 60 0 ≤ d) (
  dc_let (pvI S 60 0 d (2 : Int32)) fun S247 =>
  dc_nn (gvR S247 10 0 11) fun x250 =>
  dc_gd (nI l < 0 ∨ gvL S247 41 x250 ≤ l) (
  dc_bd (f_X10_push n S247 0 (0 : Int32) (gvI S247 41 x250 l) (nI nm)) fun _r252 S253 =>
  some ((), S253)))
theorem ev_tS {S : lh_S} {L : GL} {F : GF} {C : GC} {O : GO} {N : GN} {d l nm u : Nat} {st : Nat → QFR} (n : Nat) (h : QR S L F C O N (d + 1) (va_up st d (0, l, nm, 1, u))) (h8 : tl_n L ≤ 8) (h30 : tf_n F ≤ 30) (hl : l < tl_n L) (hnm : nm < 40) (hf : ∀ f, tl_has L l nm = some f → f < tf_n F) :
    (tl_has L l nm = none → d < 700 → ∃ S', tS n S d l (40 * l + nm) u = some ((), S') ∧ QR S' L F C O N (d + 1) (va_up st d (0, l, nm, 1, u + 1))) ∧
    (∀ f, tl_has L l nm = some f → d + 1 < 700 → ∃ S', tS n S d l (40 * l + nm) u = some ((), S') ∧ QR S' L F C O N (d + 2) (va_up (va_up st d (0, l, nm, 3, u)) (d + 1) (1, l, f, 0, 0))) := by
  obtain ⟨qX, qL, qF, qC, qO, qN, qT⟩ := id h
  have y1 := (qL.2.2.2 l nm (by omega) hnm).1
  rw [if_pos hl] at y1
  refine ⟨fun hh hd => ?_, fun f hh hd => ?_⟩
  · refine ⟨_, ?_, QR_turn (u + 1) h⟩
    unfold tS
    rw [ix_c (by omega), dc_nn_e (qx_13 qX), dc_gd_n (gg (ql_43 qX) (by omega) (by omega)), y1, hh, dc_if_p (by decide), dc_gd_n (gg (ql_61 qX) hd (by omega)), nI_1, dc_let_q, dc_gd_n (gg (ql_61 qX) hd (by omega)), dc_let_q]
  · obtain ⟨S1, h1⟩ : ∃ S1, S1 = pvI S 60 0 d (nI 3) := ⟨_, rfl⟩
    have hR := QR_state 3 h
    rw [← h1] at hR
    have z1 := (hR.2.1.2.2.2 l nm (by omega) hnm).1
    rw [if_pos hl, hh] at z1
    obtain ⟨S', e, hR2⟩ := QR_push n hR hd 1 l f
    refine ⟨S', ?_, hR2⟩
    have hfn := hf f hh
    unfold tS
    rw [ix_c (by omega), dc_nn_e (qx_13 qX), dc_gd_n (gg (ql_43 qX) (by omega) (by omega)), y1, hh, show oc (some f) = f + 1 from rfl, dc_if_n (nI_nle (n := f + 1) (by omega) (by omega)), dc_gd_n (gg (ql_60 qX) (by omega) (by omega)), show (3 : Int32) = nI 3 from rfl, ← h1, dc_let_q, dc_nn_e (qx_13 hR.1), dc_gd_n (gg (ql_43 hR.1) (by omega) (by omega)), z1, dc_let_q, show nI (oc (some f)) - 1 = nI f from nI_pred f, show (1 : Int32) = nI 1 from rfl, e, dc_bd_s]
theorem ev_tP {S : lh_S} {L : GL} {F : GF} {C : GC} {O : GO} {N : GN} {d l nm u : Nat} {st : Nat → QFR} (n : Nat) (h : QR S L F C O N (d + 1) (va_up st d (0, l, nm, 1, u))) (h8 : tl_n L ≤ 8) (hl : l < tl_n L) (h0 : l ≠ 0) (hd : d + 1 < 700) : ∃ S', tP n S d l nm = some ((), S') ∧ QR S' L F C O N (d + 2) (va_up (va_up st d (0, l, nm, 2, u)) (d + 1) (0, tl_par L l, nm, 0, 0)) := by
  obtain ⟨qX, qL, qF, qC, qO, qN, qT⟩ := id h
  obtain ⟨S1, h1⟩ : ∃ S1, S1 = pvI S 60 0 d (nI 2) := ⟨_, rfl⟩
  have hR := QR_state 2 h
  rw [← h1] at hR
  obtain ⟨S', e, hR2⟩ := QR_push n hR hd 0 (tl_par L l) nm
  refine ⟨S', ?_, hR2⟩
  unfold tP
  rw [dc_gd_n (gg (ql_60 qX) (by omega) (by omega)), show (2 : Int32) = nI 2 from rfl, ← h1, dc_let_q, dc_nn_e (qx_11 hR.1), dc_gd_n (gg (ql_41 hR.1) (by omega) (by omega)), hR.2.1.2.1 l hl (by omega), show (0 : Int32) = nI 0 from rfl, e, dc_bd_s]
/-- state 1: whose turn it is -/
theorem R1 {S : lh_S} {L : GL} {F : GF} {C : GC} {O : GO} {N : GN} {d l nm u : Nat} {st : Nat → QFR} (n : Nat) (h : QR S L F C O N (d + 1) (va_up st d (0, l, nm, 1, u))) (hd : d < 700) (h8 : tl_n L ≤ 8) (hl : l < tl_n L) (hnm : nm < 40) :
    (((l = 0 ∧ u = 0) ∨ (l ≠ 0 ∧ tl_bnd L l ≤ nI nm ∧ u = 0) ∨ (l ≠ 0 ∧ ¬ tl_bnd L l ≤ nI nm ∧ u = 1)) → f_X10_oneLoad n S 0 (nI d) = tS n S d l (40 * l + nm) u) ∧
    (((l ≠ 0 ∧ tl_bnd L l ≤ nI nm ∧ u = 1) ∨ (l ≠ 0 ∧ ¬ tl_bnd L l ≤ nI nm ∧ u = 0)) → f_X10_oneLoad n S 0 (nI d) = tP n S d l nm) ∧
    (((l = 0 ∧ u = 1) ∨ (l ≠ 0 ∧ u = 2)) → ∃ S', f_X10_oneLoad n S 0 (nI d) = some ((), S') ∧ QR S' L F C O N d st ∧ ∀ c, QA S' 1 c) := by
  obtain ⟨qX, qL, qF, qC, qO, qN, qT⟩ := id h
  obtain ⟨t1, t2, t3, t4, t5, t6⟩ := QT_top qT
  have y := qL.2.2.1 l (by omega)
  rw [if_pos hl] at y
  obtain ⟨S', e, hR, hA⟩ := QR_ends n h (e := 1) (by decide)
  have e : f_X10_ends n S 0 (1 : Int32) = some ((), S') := e
  by_cases h0 : l = 0
  · have A : u = 0 ∨ u = 1 → f_X10_oneLoad n S 0 (nI d) = if u = 1 then some ((), S') else tS n S d l (40 * l + nm) u := by
      intro hu
      unfold f_X10_oneLoad
      rw [ix_c (j := d) (by omega), dc_nn_e (qx_28 qX), dc_gd_n (gg (ql_58 qX) hd (by omega)), dc_nn_e (qx_29 qX), dc_gd_n (gg (ql_59 qX) hd (by omega)), t2, t3, dc_let_q, dc_let_q, at40, dc_nn_e (qx_30 qX), dc_gd_n (gg (ql_60 qX) hd (by omega)), t4, dc_if_n (by decide), dc_gd_n (gg (ql_60 qX) hd (by omega)), dc_if_p (by decide), dc_if_p (c := nI l ≤ 0) (by rw [h0]; decide), dc_nn_e (qx_31 qX), dc_gd_n (gg (ql_61 qX) hd (by omega)), t5, dc_if_n (c := nI u = 2) (by rcases hu with rfl | rfl <;> decide), dc_if_p (c := nI l = 0) (by rw [h0]; decide), dc_gd_n (gg (ql_61 qX) hd (by omega))]
      rcases hu with rfl | rfl
      · rw [dc_if_n (by decide), if_neg (by decide)]
        rfl
      · rw [dc_if_p (by decide), e, dc_bd_s, if_pos rfl]
    refine ⟨fun hc => ?_, fun hc => by omega, fun hc => ?_⟩
    · rw [A (by omega), if_neg (by omega)]
    · exact ⟨S', by rw [A (by omega), if_pos (by omega)], hR, hA⟩
  · have P : f_X10_oneLoad n S 0 (nI d) = dc_if (tl_bnd L l ≤ nI nm) (
        dc_if (nI u = 0) (dc_if (nI u = 2) (some ((), S')) (tS n S d l (40 * l + nm) u)) (dc_if (nI u = 2) (some ((), S')) (tP n S d l nm))) (
        dc_if (nI u = 0) (dc_if (nI u = 2) (some ((), S')) (tP n S d l nm)) (dc_if (nI u = 2) (some ((), S')) (tS n S d l (40 * l + nm) u))) := by
      have hz : ¬ nI l = 0 := nI_ne0 (by omega) (by omega)
      unfold f_X10_oneLoad
      rw [ix_c (j := d) (by omega), dc_nn_e (qx_28 qX), dc_gd_n (gg (ql_58 qX) hd (by omega)), dc_nn_e (qx_29 qX), dc_gd_n (gg (ql_59 qX) hd (by omega)), t2, t3, dc_let_q, dc_let_q, at40, dc_nn_e (qx_30 qX), dc_gd_n (gg (ql_60 qX) hd (by omega)), t4, dc_if_n (by decide), dc_gd_n (gg (ql_60 qX) hd (by omega)), dc_if_p (by decide), dc_if_n (nI_nle (n := l) (by omega) (by omega)), dc_nn_e (qx_12 qX), ix_c (j := l) (by omega), dc_gd_n (gg (ql_42 qX) (by omega) (by omega)), y, dc_nn_e (qx_31 qX), dc_gd_n (gg (ql_61 qX) hd (by omega)), dc_nn_e (qx_31 qX), dc_gd_n (gg (ql_61 qX) hd (by omega)), t5]
      by_cases hb : tl_bnd L l ≤ nI nm
      · rw [dc_if_p hb, dc_if_p hb]
        by_cases hu : nI u = 0
        · rw [dc_if_p hu, dc_if_p hu, dc_gd_n (gg (ql_61 qX) hd (by omega)), e, dc_bd_s, dc_if_n hz]
          rfl
        · rw [dc_if_n hu, dc_if_n hu, dc_gd_n (gg (ql_61 qX) hd (by omega)), e, dc_bd_s, dc_if_n hz]
          rfl
      · rw [dc_if_n hb, dc_if_n hb]
        by_cases hu : nI u = 0
        · rw [dc_if_p hu, dc_if_p hu, dc_gd_n (gg (ql_61 qX) hd (by omega)), e, dc_bd_s, dc_if_n hz, dc_gd_n (gg (ql_61 qX) hd (by omega))]
          rfl
        · rw [dc_if_n hu, dc_if_n hu, dc_gd_n (gg (ql_61 qX) hd (by omega)), e, dc_bd_s, dc_if_n hz]
          rfl
    refine ⟨fun hc => ?_, fun hc => ?_, fun hc => ?_⟩
    · rcases hc with hc | ⟨-, hb, rfl⟩ | ⟨-, hb, rfl⟩
      · omega
      · rw [P, dc_if_p hb, dc_if_p (by decide), dc_if_n (by decide)]
      · rw [P, dc_if_n hb, dc_if_n (by decide), dc_if_n (by decide)]
    · rcases hc with ⟨-, hb, rfl⟩ | ⟨-, hb, rfl⟩
      · rw [P, dc_if_p hb, dc_if_n (by decide), dc_if_n (by decide)]
      · rw [P, dc_if_n hb, dc_if_p (by decide), dc_if_n (by decide)]
    · rcases hc with hc | ⟨-, rfl⟩
      · omega
      · refine ⟨S', ?_, hR, hA⟩
        rw [P]
        by_cases hb : tl_bnd L l ≤ nI nm
        · rw [dc_if_p hb, dc_if_n (by decide), dc_if_p (by decide)]
        · rw [dc_if_n hb, dc_if_n (by decide), dc_if_p (by decide)]
/-- the parent has answered -/
theorem R2 {S : lh_S} {L : GL} {F : GF} {C : GC} {O : GO} {N : GN} {d l nm u : Nat} {st : Nat → QFR} (n : Nat) (hn : 100 ≤ n) (h : QR S L F C O N (d + 1) (va_up st d (0, l, nm, 2, u))) (hd : d < 700) (hB : KB L C) (hl : l < tl_n L) (hnm : nm < 40) {e c : Nat} (he : e ≤ 100) (hA : QA S e c) :
    (e = 1 → ∃ S', QR S' L F C O N (d + 1) (va_up st d (0, l, nm, 1, u + 1)) ∧ rGo n 1 S S') ∧
    (e ≠ 0 → e ≠ 1 → ∃ S', QR S' L F C O N d st ∧ (∀ c, QA S' e c) ∧ rGo n 1 S S') ∧
    (e = 0 → c < 41 → brd L l nm (some c) = true → ∃ S', QR S' L F C O N d st ∧ (∀ c, QA S' 3 c) ∧ rGo n 1 S S') ∧
    (e = 0 → c < 41 → brd L l nm (some c) = false → ∃ S', QR S' (kS L l nm c) F C O N d st ∧ QA S' 0 c ∧ rGo n 1 S S') := by
  obtain ⟨qX, qL, qF, qC, qO, qN, qT⟩ := id h
  obtain ⟨t1, t2, t3, t4, t5, t6⟩ := QT_top qT
  have h8 := hB.2.2.2
  have go : ∀ S', f_X10_oneLoad n S 0 (nI d) = some ((), S') → rGo n 1 S S' := fun S' e => rGo_load qX qT hd e
  refine ⟨fun h1 => ?_, fun h0 h1 => ?_, fun h0 hc hb => ?_, fun h0 hc hb => ?_⟩
  · obtain ⟨S1, g1⟩ : ∃ S1, S1 = pvI S 60 0 d (nI 1) := ⟨_, rfl⟩
    have hR := QR_state 1 h
    rw [← g1] at hR
    have v5 := (QT_top hR.2.2.2.2.2.2).2.2.2.2.1
    refine ⟨_, QR_turn (u + 1) hR, go _ ?_⟩
    unfold f_X10_oneLoad
    rw [ix_c (j := d) (by omega), dc_nn_e (qx_28 qX), dc_gd_n (gg (ql_58 qX) hd (by omega)), dc_nn_e (qx_29 qX), dc_gd_n (gg (ql_59 qX) hd (by omega)), t2, t3, dc_let_q, dc_let_q, at40, dc_nn_e (qx_30 qX), dc_gd_n (gg (ql_60 qX) hd (by omega)), t4, dc_if_n (by decide), dc_gd_n (gg (ql_60 qX) hd (by omega)), dc_if_n (by decide), dc_gd_n (gg (ql_60 qX) hd (by omega)), dc_if_p (by decide), hA.1, h1, dc_if_p (by decide), dc_gd_n (gg (ql_60 qX) hd (by omega)), show (1 : Int32) = nI 1 from rfl, ← g1, dc_let_q, dc_nn_e (qx_31 hR.1), dc_gd_n (gg (ql_61 hR.1) hd (by omega)), v5, show nI u + nI 1 = nI (u + 1) from nI_1 u, dc_let_q, dc_gd_n (gg (ql_61 hR.1) hd (by omega)), dc_let_q]
  · obtain ⟨S', x, hR, hA'⟩ := QR_ends n h (e := e) h0
    refine ⟨S', hR, hA', go _ ?_⟩
    have n0 : ¬ nI e = 0 := nI_ne0 (by omega) (by omega)
    unfold f_X10_oneLoad
    rw [ix_c (j := d) (by omega), dc_nn_e (qx_28 qX), dc_gd_n (gg (ql_58 qX) hd (by omega)), dc_nn_e (qx_29 qX), dc_gd_n (gg (ql_59 qX) hd (by omega)), t2, t3, dc_let_q, dc_let_q, at40, dc_nn_e (qx_30 qX), dc_gd_n (gg (ql_60 qX) hd (by omega)), t4, dc_if_n (by decide), dc_gd_n (gg (ql_60 qX) hd (by omega)), dc_if_n (by decide), dc_gd_n (gg (ql_60 qX) hd (by omega)), dc_if_p (by decide), hA.1, dc_if_n (show ¬ nI e = (1 : Int32) from fun q => h1 ((nI_eq (a := e) (b := 1) (by omega) (by omega)).mp q)), dc_gd_n (gg (ql_60 qX) hd (by omega)), dc_if_p (by decide), dc_if_n n0, dc_if_n n0, x, dc_bd_s]
  · obtain ⟨S', x, hR, hA'⟩ := QR_ends n h (e := 3) (by decide)
    refine ⟨S', hR, hA', go _ ?_⟩
    unfold f_X10_oneLoad
    rw [ix_c (j := d) (by omega), dc_nn_e (qx_28 qX), dc_gd_n (gg (ql_58 qX) hd (by omega)), dc_nn_e (qx_29 qX), dc_gd_n (gg (ql_59 qX) hd (by omega)), t2, t3, dc_let_q, dc_let_q, at40, dc_nn_e (qx_30 qX), dc_gd_n (gg (ql_60 qX) hd (by omega)), t4, dc_if_n (by decide), dc_gd_n (gg (ql_60 qX) hd (by omega)), dc_if_n (by decide), dc_gd_n (gg (ql_60 qX) hd (by omega)), dc_if_p (by decide), hA.1, h0, dc_if_n (by decide), dc_gd_n (gg (ql_60 qX) hd (by omega)), dc_if_p (by decide), dc_if_p (by decide), hA.2 h0, qv_barred_s n hn qX qL hB hl hnm hc, hb, if_pos rfl, dc_bd_s, dc_if_n (by decide), show (3 : Int32) = nI 3 from rfl, x, dc_bd_s]
  · have hR := QR_k c h hl hnm
    obtain ⟨S', x, hR2, hA'⟩ := QR_gives n hR c
    refine ⟨S', hR2, hA', go _ ?_⟩
    have i33 : gvI (pvI S 44 0 (40 * l + nm) (nI (c + 1))) 10 0 33 = nI c := hA.2 h0
    unfold f_X10_oneLoad
    rw [ix_c (j := d) (by omega), dc_nn_e (qx_28 qX), dc_gd_n (gg (ql_58 qX) hd (by omega)), dc_nn_e (qx_29 qX), dc_gd_n (gg (ql_59 qX) hd (by omega)), t2, t3, dc_let_q, dc_let_q, at40, dc_nn_e (qx_30 qX), dc_gd_n (gg (ql_60 qX) hd (by omega)), t4, dc_if_n (by decide), dc_gd_n (gg (ql_60 qX) hd (by omega)), dc_if_n (by decide), dc_gd_n (gg (ql_60 qX) hd (by omega)), dc_if_p (by decide), hA.1, h0, dc_if_n (by decide), dc_gd_n (gg (ql_60 qX) hd (by omega)), dc_if_p (by decide), dc_if_p (by decide), hA.2 h0, qv_barred_s n hn qX qL hB hl hnm hc, hb, if_neg (by decide), dc_bd_s, dc_if_p rfl, hA.1, h0, dc_if_p (by decide), hA.2 h0, nI_1, dc_let_q, dc_nn_e (qx_14 qX), ix_c (j := 40 * l + nm) (by omega), dc_gd_n (gg (ql_44 qX) (by omega) (by omega)), dc_let_q, i33, x, dc_bd_s]
/-- its own DEFINE has ended -/
theorem R3 {S : lh_S} {L : GL} {F : GF} {C : GC} {O : GO} {N : GN} {d l nm u : Nat} {st : Nat → QFR} (n : Nat) (h : QR S L F C O N (d + 1) (va_up st d (0, l, nm, 3, u))) (hd : d < 700) (h8 : tl_n L ≤ 8) (hl : l < tl_n L) (hnm : nm < 40) {e c : Nat} (he : e ≤ 100) (hA : QA S e c) :
    (e ≠ 0 → ∃ S', QR S' L F C O N d st ∧ (∀ c, QA S' e c) ∧ rGo n 1 S S') ∧
    (e = 0 → ∃ S', QR S' (kS L l nm c) F C O N d st ∧ QA S' 0 c ∧ rGo n 1 S S') := by
  obtain ⟨qX, qL, qF, qC, qO, qN, qT⟩ := id h
  obtain ⟨t1, t2, t3, t4, t5, t6⟩ := QT_top qT
  have go : ∀ S', f_X10_oneLoad n S 0 (nI d) = some ((), S') → rGo n 1 S S' := fun S' e => rGo_load qX qT hd e
  refine ⟨fun h0 => ?_, fun h0 => ?_⟩
  · obtain ⟨S', x, hR, hA'⟩ := QR_ends n h (e := e) h0
    refine ⟨S', hR, hA', go _ ?_⟩
    have n0 : ¬ nI e = 0 := nI_ne0 (by omega) (by omega)
    unfold f_X10_oneLoad
    rw [ix_c (j := d) (by omega), dc_nn_e (qx_28 qX), dc_gd_n (gg (ql_58 qX) hd (by omega)), dc_nn_e (qx_29 qX), dc_gd_n (gg (ql_59 qX) hd (by omega)), t2, t3, dc_let_q, dc_let_q, at40, dc_nn_e (qx_30 qX), dc_gd_n (gg (ql_60 qX) hd (by omega)), t4, dc_if_n (by decide), dc_gd_n (gg (ql_60 qX) hd (by omega)), dc_if_n (by decide), dc_gd_n (gg (ql_60 qX) hd (by omega)), dc_if_n (by decide), dc_gd_n (gg (ql_60 qX) hd (by omega)), dc_if_n (by decide), hA.1, dc_if_n n0, x, dc_bd_s]
  · have hR := QR_k c h hl hnm
    obtain ⟨S', x, hR2, hA'⟩ := QR_gives n hR c
    refine ⟨S', hR2, hA', go _ ?_⟩
    have i33 : gvI (pvI S 44 0 (40 * l + nm) (nI (c + 1))) 10 0 33 = nI c := hA.2 h0
    unfold f_X10_oneLoad
    rw [ix_c (j := d) (by omega), dc_nn_e (qx_28 qX), dc_gd_n (gg (ql_58 qX) hd (by omega)), dc_nn_e (qx_29 qX), dc_gd_n (gg (ql_59 qX) hd (by omega)), t2, t3, dc_let_q, dc_let_q, at40, dc_nn_e (qx_30 qX), dc_gd_n (gg (ql_60 qX) hd (by omega)), t4, dc_if_n (by decide), dc_gd_n (gg (ql_60 qX) hd (by omega)), dc_if_n (by decide), dc_gd_n (gg (ql_60 qX) hd (by omega)), dc_if_n (by decide), dc_gd_n (gg (ql_60 qX) hd (by omega)), dc_if_n (by decide), hA.1, h0, dc_if_p (by decide), hA.2 h0, nI_1, dc_let_q, dc_nn_e (qx_14 qX), ix_c (j := 40 * l + nm) (by omega), dc_gd_n (gg (ql_44 qX) (by omega) (by omega)), dc_let_q, i33, x, dc_bd_s]
