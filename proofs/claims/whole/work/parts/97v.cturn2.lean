/-- the parent, asked first, has none -/
theorem T1a {S : lh_S} {L : GL} {F : GF} {C : GC} {O : GO} {N : GN} {d l nm : Nat} {f : Option Nat} {st : Nat → FR} (n : Nat) (h : CR S L F C O N (d + 1) (va_up st d (l, nm, f, 1))) : ∃ S', CR S' L F C O N (d + 1) (va_up st d (l, nm, f, 4)) ∧ cGo n 1 S (-11) S' (-1) := by
  refine ⟨_, CR_stage 4 h, cGo_of h.1 h.2.2.2.2.2.2 (by omega) ?_⟩
  show f_X4_takeFromFirstParent n S 0 (some d) (-11) = _
  unfold f_X4_takeFromFirstParent
  rw [show f_X9_failed n S 1 = some (-11, S) from rfl, dc_bd_s, dc_if_p rfl, dc_nn_s, dc_let_q]
  rfl
/-- what the parent gave is taken: stage 1 or 2 -/
theorem T12 {S : lh_S} {L : GL} {F : GF} {C : GC} {O : GO} {N : GN} {d l nm s : Nat} {f : Option Nat} {st : Nat → FR} (n : Nat) (hn : 100 ≤ n) (hs : s = 1 ∨ s = 2) (h : CR S L F C O N (d + 1) (va_up st d (l, nm, f, s))) (hl : l < tl_n L) (hnm : nm < 40) {e c : Nat} (he : e ≤ 100) (hc2 : c < 100) (h1 : s = 1 → e ≠ 1) :
    (e ≠ 0 → ∃ S', CR S' L F C O N d st ∧ cGo n 1 S (ans e c) S' (ans e c)) ∧
    (e = 0 → c < tc_n C → brd L l nm (some c) = true → ∃ S', CR S' L F C O N d st ∧ cGo n 1 S (ans e c) S' (ans 3 0)) ∧
    (e = 0 → c < tc_n C → brd L l nm (some c) = false → ∃ S', CR S' (kS L l nm c) F C O N d st ∧ cGo n 1 S (ans e c) S' (ans e c)) := by
  have go : ∀ r S', f_X4_takeFromParent n S 0 (some d) (ans e c) = some (r, S') → cGo n 1 S (ans e c) S' r := by
    intro r S' hr
    rcases hs with rfl | rfl
    · refine cGo_of h.1 h.2.2.2.2.2.2 (by omega) ?_
      show f_X4_takeFromFirstParent n S 0 (some d) (ans e c) = _
      unfold f_X4_takeFromFirstParent
      rw [show f_X9_failed n S 1 = some (-11, S) from rfl, dc_bd_s, dc_if_n (fun q => h1 rfl ((ans_11 he hc2).mp q)), hr, dc_bd_s]
    · exact cGo_of h.1 h.2.2.2.2.2.2 (by omega) hr
  obtain ⟨p1, p2, p3⟩ := TP n hn h hl hnm (e := e) (c := c) he
  refine ⟨fun h0 => ?_, fun h0 hc hb => ?_, fun h0 hc hb => ?_⟩
  · obtain ⟨S', a, b⟩ := p1 h0
    exact ⟨S', a, go _ _ b⟩
  · obtain ⟨S', a, b⟩ := p2 h0 hc hb
    exact ⟨S', a, go _ _ b⟩
  · obtain ⟨S', a, b⟩ := p3 h0 hc hb
    exact ⟨S', a, go _ _ b⟩
/-- it tries itself: stage 3 (where it bears a file or is the machine) or 4 -/
theorem T34 {S : lh_S} {L : GL} {F : GF} {C : GC} {O : GO} {N : GN} {d l nm s : Nat} {f : Option Nat} {st : Nat → FR} (n : Nat) (h : CR S L F C O N (d + 1) (va_up st d (l, nm, f, s))) (hl : l < tl_n L) (hnm : nm < 40) (hs : (s = 3 ∧ (tl_has L l nm ≠ none ∨ l = 0)) ∨ s = 4) (v : Int32) :
    (tl_has L l nm = none → ∃ S', CR S' L F C O N d st ∧ cGo n 1 S v S' (ans 1 0)) ∧
    (∀ q, tl_has L l nm = some q → ∃ S', CR S' L F C O N (d + 1) (va_up st d (l, nm, some q, 5)) ∧ cGo n 1 S v S' (-1)) := by
  obtain ⟨hX, hL, hF, hC, hO, hN, hT⟩ := id h
  obtain ⟨t1, t2, t3, t4, t5, t6, t7⟩ := CT_top hT
  have a5 := hL.2.2.2.2.2.1 l hl
  have a7 := hL.2.2.2.2.2.2 l nm hl hnm
  have go : ∀ r S', f_X4_tryItself n S 0 (some d) = some (r, S') → cGo n 1 S v S' r := by
    intro r S' hr
    rcases hs with ⟨rfl, hs⟩ | rfl
    · refine cGo_of h.1 h.2.2.2.2.2.2 (by omega) ?_
      show f_X4_tryItselfFirst n S 0 (some d) = _
      unfold f_X4_tryItselfFirst
      rw [dc_nn_s, dc_nn_e t1, dc_nn_e a5.2.2.2.1, t2, dc_gd_n (by rw [a5.2.2.2.2.2.2.2.1]; exact ix_in hnm (by omega)), ix_c (by omega), a7.1]
      by_cases hh : tl_has L l nm = none
      · rw [dc_if_p hh, ev_isMachine n hL hl, dc_bd_s]
        rcases hs with hs | hs
        · exact absurd hh hs
        · rw [if_pos hs, dc_if_n (by decide), hr, dc_bd_s]
      · rw [dc_if_n hh, hr, dc_bd_s]
    · exact cGo_of h.1 h.2.2.2.2.2.2 (by omega) hr
  have pre : f_X4_tryItself n S 0 (some d) = dc_if (tl_has L l nm = none) (some (-11, pvI (pvR S 8 d 2 (tl_has L l nm)) 4 0 5 (nI d))) (some (-1, pvI (pvR S 8 d 2 (tl_has L l nm)) 8 d 3 (nI 5))) := by
    unfold f_X4_tryItself
    rw [dc_nn_s, dc_nn_e t1, dc_nn_e a5.2.2.2.1, t2, dc_gd_n (by rw [a5.2.2.2.2.2.2.2.1]; exact ix_in hnm (by omega)), ix_c (by omega), a7.1, dc_let_q, gR_s, show f_X9_failed n (pvR S 8 d 2 (tl_has L l nm)) 1 = some (-11, pvR S 8 d 2 (tl_has L l nm)) from rfl, dc_bd_s, ev_end n (show gvI (pvR S 8 d 2 (tl_has L l nm)) 4 0 5 = nI (d + 1) from t6), dc_bd_s, dc_let_q]
    rfl
  refine ⟨fun hh => ?_, fun q hh => ?_⟩
  · have h2 := CR_pop (CR_file (tl_has L l nm) h)
    refine ⟨_, h2, go _ _ ?_⟩
    rw [pre, dc_if_p hh]
    rfl
  · have h2 := CR_stage 5 (CR_file (some q) h)
    refine ⟨_, h2, go _ _ ?_⟩
    rw [pre, hh, dc_if_n (fun z => by cases z)]
/-- it bears none, and asks its parent -/
theorem T3p {S : lh_S} {L : GL} {F : GF} {C : GC} {O : GO} {N : GN} {d l nm : Nat} {f : Option Nat} {st : Nat → FR} (n : Nat) (h : CR S L F C O N (d + 1) (va_up st d (l, nm, f, 3))) (hl : l < tl_n L) (hnm : nm < 40) (hh : tl_has L l nm = none) (h0 : l ≠ 0) (hd : d + 1 < 321) (v : Int32) : ∃ S', CR S' L F C O N (d + 2) (va_up (va_up st d (l, nm, f, 2)) (d + 1) (tl_par L l, nm, none, 0)) ∧ cGo n 1 S v S' (-1) := by
  obtain ⟨hX, hL, hF, hC, hO, hN, hT⟩ := id h
  obtain ⟨t1, t2, t3, t4, t5, t6, t7⟩ := CT_top hT
  have a5 := hL.2.2.2.2.2.1 l hl
  have a7 := hL.2.2.2.2.2.2 l nm hl hnm
  obtain ⟨S', e, hR⟩ := CR_ask n h hl h0 hd 2
  refine ⟨S', hR, cGo_of h.1 h.2.2.2.2.2.2 (by omega) ?_⟩
  show f_X4_tryItselfFirst n S 0 (some d) = _
  unfold f_X4_tryItselfFirst
  rw [dc_nn_s, dc_nn_e t1, dc_nn_e a5.2.2.2.1, t2, dc_gd_n (by rw [a5.2.2.2.2.2.2.2.1]; exact ix_in hnm (by omega)), ix_c (by omega), a7.1, dc_if_p hh, ev_isMachine n hL hl, dc_bd_s, if_neg h0, dc_if_p rfl, show (2 : Int32) = nI 2 from rfl, e, dc_bd_s]
/-- what fails at once -/
def fao (L : GL) (F : GF) (l f : Nat) : Nat := if tf_nm F f < 5 ∧ l ≠ 0 then 4 else if tf_in F f ≠ tf_nm F f then 2 else if tl_kn L l (tf_nm F f) ≠ none then 3 else if tl_dg L l (tf_nm F f) = true then 6 else 0
theorem ev_fao {S : lh_S} {L : GL} {F : GF} (n : Nat) (hL : CL S L) (hF : CF S F) {l f : Nat} (hl : l < tl_n L) (hf : f < tf_n F) (hfn : tf_nm F f < 40 ∧ tf_in F f < 40) : f_X4_failureAtOnce n S 0 (some l) (some f) = some (nI (fao L F l f), S) := by
  have a5 := hL.2.2.2.2.2.1 l hl
  have a7 := hL.2.2.2.2.2.2 l (tf_nm F f) hl hfn.1
  have f5 := hF.2.2.2.2.1 f hf
  have tail : dc_if ((gvI S 1 f 2) = (gvI S 1 f 1)) (
      dc_nn (gvR S 2 l 4) fun x6 =>
      dc_gd ((gvI S 1 f 1) < 0 ∨ gvL S 13 x6 ≤ ((gvI S 1 f 1)).toNatClampNeg) (
      dc_if ((gvR S 13 x6 ((gvI S 1 f 1)).toNatClampNeg) = none) (
      dc_nn (gvR S 2 l 5) fun x11 =>
      dc_gd ((gvI S 1 f 1) < 0 ∨ gvL S 14 x11 ≤ ((gvI S 1 f 1)).toNatClampNeg) (
      dc_if ((gvI S 14 x11 ((gvI S 1 f 1)).toNatClampNeg) = 0) (
      some ((0 : Int32), S)) (
      some ((6 : Int32), S)))) (
      some ((3 : Int32), S)))) (
      some ((2 : Int32), S)) = some (nI (if tf_in F f ≠ tf_nm F f then 2 else if tl_kn L l (tf_nm F f) ≠ none then 3 else if tl_dg L l (tf_nm F f) = true then 6 else 0), S) := by
    rw [f5.2.1, f5.2.2.1]
    by_cases h1 : tf_in F f = tf_nm F f
    · rw [dc_if_p (by rw [h1]), if_neg (fun q => q h1), dc_nn_e a5.2.2.2.2.1, dc_gd_n (by rw [a5.2.2.2.2.2.2.2.2.1]; exact ix_in hfn.1 (by omega)), ix_c (by omega), a7.2.1]
      by_cases h2 : tl_kn L l (tf_nm F f) = none
      · rw [dc_if_p h2, if_neg (fun q => q h2), dc_nn_e a5.2.2.2.2.2.1, dc_gd_n (by rw [a5.2.2.2.2.2.2.2.2.2.1]; rintro (q | q); exact nI_pos (by omega) q; omega), a7.2.2.1]
        by_cases h3 : tl_dg L l (tf_nm F f) = true
        · rw [if_pos h3, if_pos h3, dc_if_n (by decide)]
          rfl
        · rw [if_neg h3, if_neg h3, dc_if_p rfl]
          rfl
      · rw [dc_if_n h2, if_pos h2]
        rfl
    · rw [dc_if_n (fun q => h1 ((nI_eq (by omega) (by omega)).mp q)), if_pos h1]
      rfl
  unfold f_X4_failureAtOnce fao
  by_cases h5 : tf_nm F f < 5
  · have e5 : ¬ (5 : Int32) ≤ gvI S 1 f 1 := by
      rw [f5.2.1]
      exact nI_ge (b := 5) h5 (by omega)
    rw [dc_nn_s, dc_if_n e5, dc_nn_s, ev_isMachine n hL hl, dc_bd_s]
    by_cases h0 : l = 0
    · rw [if_pos h0, dc_if_n (by decide), if_neg (fun q => q.2 h0), ← tail]
    · rw [if_neg h0, dc_if_p rfl, if_pos ⟨h5, h0⟩]
      rfl
  · have e5 : (5 : Int32) ≤ gvI S 1 f 1 := by
      rw [f5.2.1]
      exact nI_le (a := 5) (by omega) (by omega)
    rw [dc_nn_s, dc_if_p e5, if_neg (fun q => h5 q.1), ← tail]
    rfl
/-- a DEFINE begins -/
theorem T5 {S : lh_S} {L : GL} {F : GF} {C : GC} {O : GO} {N : GN} {d l nm f : Nat} {st : Nat → FR} (n : Nat) (hn : 100 ≤ n) (h : CR S L F C O N (d + 1) (va_up st d (l, nm, some f, 5))) (hl : l < tl_n L) (hf : f < tf_n F) (hnm : tf_nm F f = nm) (h4 : nm < 40) (hin : tf_in F f < 40) (v : Int32) :
    (fao L F l f ≠ 0 → ∃ S', CR S' L F C O N d st ∧ cGo n 1 S v S' (ans (fao L F l f) 0)) ∧
    (fao L F l f = 0 → nm ≠ 0 → d + 1 < 321 → ∃ S', CR S' (dS L l nm true) F C O N (d + 2) (va_up (va_up st d (l, nm, some f, 6)) (d + 1) (l, tf_ab F f, none, 0)) ∧ cGo n 1 S v S' (-1)) ∧
    (fao L F l f = 0 → nm = 0 → ∀ r S', f_X4_finish n S 0 (some d) none = some (r, S') → cGo n 1 S v S' r) := by
  obtain ⟨hX, hL, hF, hC, hO, hN, hT⟩ := id h
  obtain ⟨t1, t2, t3, t4, t5, t6, t7⟩ := CT_top hT
  have a5 := hL.2.2.2.2.2.1 l hl
  have f5 := hF.2.2.2.2.1 f hf
  have h9 : fao L F l f ≤ 6 := by
    unfold fao
    repeat' split
    all_goals omega
  have go : ∀ r S', f_X4_beginToDefine n S 0 (some d) = some (r, S') → cGo n 1 S v S' r := fun r S' e => cGo_of hX hT (by omega) e
  refine ⟨fun h0 => ?_, fun h0 hz hd => ?_, fun h0 hz r S' e => ?_⟩
  · refine ⟨_, CR_pop h, go _ _ ?_⟩
    unfold f_X4_beginToDefine
    rw [dc_nn_s, t1, t3, ev_fao n hL hF hl hf ⟨by omega, hin⟩, dc_bd_s, dc_if_n (nI_ne0 (by omega) (by omega)), show f_X9_failed n S (nI (fao L F l f)) = some (-10 - nI (fao L F l f), S) from rfl, dc_bd_s, ev_end n t6, dc_bd_s, show ans (fao L F l f) 0 = -10 - nI (fao L F l f) from if_neg h0]
  · obtain ⟨S17, hS17⟩ : ∃ S17, S17 = pvI (pvI S 14 l nm 1) 8 d 3 (nI 6) := ⟨_, rfl⟩
    have hR := CR_stage 6 (CR_d l nm true h)
    have hR : CR S17 (dS L l nm true) F C O N (d + 1) (va_up st d (l, nm, some f, 6)) := by rw [hS17]; exact hR
    have u := CT_top hR.2.2.2.2.2.2
    obtain ⟨S', e, hR2⟩ := CR_open n hR hd l (tf_ab F f) none 0
    refine ⟨S', hR2, go _ _ ?_⟩
    unfold f_X4_beginToDefine
    rw [dc_nn_s, t1, t3, ev_fao n hL hF hl hf ⟨by omega, hin⟩, dc_bd_s, h0, dc_if_p (by decide), t2, dc_if_n (nI_ne0 (by omega) (by omega)), t1, dc_nn_s, dc_nn_e a5.2.2.2.2.2.1, dc_gd_n (by rw [a5.2.2.2.2.2.2.2.2.2.1]; exact ix_in h4 (by omega)), ix_c (by omega), dc_let_q, show vp_nar .boolean (1 : Int32) = 1 from by decide, show (6 : Int32) = nI 6 from rfl, ← hS17, dc_let_q, dc_nn_e u.2.2.1, u.1, (hR.2.2.1.2.2.2.2.1 f hf).2.2.2.1, show (0 : Int32) = nI 0 from rfl, e, dc_bd_s]
  · refine go _ _ ?_
    unfold f_X4_beginToDefine
    rw [dc_nn_s, t1, t3, ev_fao n hL hF hl hf ⟨by omega, hin⟩, dc_bd_s, h0, dc_if_p (by decide), t2, hz, dc_if_p (by decide), e, dc_bd_s]
/-- the class above has come, or not -/
theorem T6 {S : lh_S} {L : GL} {F : GF} {C : GC} {O : GO} {N : GN} {d l nm f : Nat} {st : Nat → FR} (n : Nat) (hn : 100 ≤ n) (h : CR S L F C O N (d + 1) (va_up st d (l, nm, some f, 6))) (hl : l < tl_n L) (h4 : nm < 40) {e c : Nat} (he : e ≤ 100) (hc : c < 100) :
    (e = 1 → ∃ S', CR S' (dS L l nm false) F C O N d st ∧ cGo n 1 S (ans e c) S' (ans 2 0)) ∧
    (e ≠ 0 → e ≠ 1 → ∃ S', CR S' (dS L l nm false) F C O N d st ∧ cGo n 1 S (ans e c) S' (ans e c)) ∧
    (e = 0 → c < tc_n C → tc_fl C c < tf_n F → tf_fi F (tc_fl C c) = true → ∃ S', CR S' (dS L l nm false) F C O N d st ∧ cGo n 1 S (ans e c) S' (ans 7 0)) ∧
    (e = 0 → c < tc_n C → tc_fl C c < tf_n F → tf_fi F (tc_fl C c) = false → ∃ S1, CR S1 (dS L l nm false) F C O N (d + 1) (va_up st d (l, nm, some f, 6)) ∧ ∀ r S', f_X4_finish n S1 0 (some d) (some c) = some (r, S') → cGo n 1 S (ans e c) S' r) := by
  obtain ⟨hX, hL, hF, hC, hO, hN, hT⟩ := id h
  obtain ⟨t1, t2, t3, t4, t5, t6, t7⟩ := CT_top hT
  have a5 := hL.2.2.2.2.2.1 l hl
  obtain ⟨S7, hS7⟩ : ∃ S7, S7 = pvI S 14 l nm 0 := ⟨_, rfl⟩
  have hR : CR S7 (dS L l nm false) F C O N (d + 1) (va_up st d (l, nm, some f, 6)) := by rw [hS7]; exact CR_d l nm false h
  have u := CT_top hR.2.2.2.2.2.2
  have go : ∀ r S', f_X4_takeAbove n S 0 (some d) (ans e c) = some (r, S') → cGo n 1 S (ans e c) S' r := fun r S' e => cGo_of hX hT (by omega) e
  have pre : f_X4_takeAbove n S 0 (some d) (ans e c) = dc_if (ans e c = -11) (some (-12, pvI S7 4 0 5 (nI d))) (
      dc_bd (f_X4_classAt n S7 0 (ans e c)) fun r14 S15 =>
      dc_if (r14 = none) (
      dc_bd (f_X4_end n S15 0 (ans e c)) fun r38 S39 =>
      some (r38, S39)) (
      dc_nn r14 fun x20 =>
      dc_nn (gvR S15 5 x20 2) fun x22 =>
      dc_if ((gvI S15 1 x22 5) = 0) (
      dc_bd (f_X4_finish n S15 0 (some d) r14) fun r24 S25 =>
      some (r24, S25)) (
      dc_bd (f_X9_failed n S15 (7 : Int32)) fun r30 S31 =>
      dc_bd (f_X4_end n S31 0 r30) fun r34 S35 =>
      some (r34, S35)))) := by
    unfold f_X4_takeAbove
    rw [dc_nn_s, dc_nn_e t1, dc_nn_e a5.2.2.2.2.2.1, t2, dc_gd_n (by rw [a5.2.2.2.2.2.2.2.2.2.1]; exact ix_in h4 (by omega)), ix_c (by omega), show vp_nar .boolean (0 : Int32) = 0 from by decide, ← hS7, dc_let_q, show f_X9_failed n S7 1 = some (-11, S7) from rfl, dc_bd_s, show f_X9_failed n S7 2 = some (-12, S7) from rfl, dc_bd_s, ev_end n u.2.2.2.2.2.1, dc_bd_s]
  refine ⟨fun h1 => ?_, fun h0 h1 => ?_, fun h0 hcn hfl hfi => ?_, fun h0 hcn hfl hfi => ?_⟩
  · refine ⟨_, CR_pop hR, go _ _ ?_⟩
    rw [pre, dc_if_p ((ans_11 he hc).mpr h1)]
    rfl
  · refine ⟨_, CR_pop hR, go _ _ ?_⟩
    rw [pre, dc_if_n (fun q => h1 ((ans_11 he hc).mp q)), ev_classAt_f n hR.2.2.2.1 (Or.inl (ans_neg h0 he)), dc_bd_s, dc_if_p rfl, ev_end n u.2.2.2.2.2.1, dc_bd_s]
  · refine ⟨_, CR_pop hR, go _ _ ?_⟩
    rw [pre, dc_if_n (fun q => by have := (ans_11 he hc).mp q; omega), show ans e c = nI c from if_pos h0, ev_classAt_t n hR.1 hR.2.2.2.1 hcn, dc_bd_s, dc_if_n (fun q => by cases q), dc_nn_s, dc_nn_e (hR.2.2.2.1.2.2.2.2 c hcn).2.2.1, (hR.2.2.1.2.2.2.2.1 _ hfl).2.2.2.2.2.1, hfi, if_pos rfl, dc_if_n (by decide), show f_X9_failed n S7 7 = some (-17, S7) from rfl, dc_bd_s, ev_end n u.2.2.2.2.2.1, dc_bd_s]
    rfl
  · refine ⟨S7, hR, fun r S' ef => go _ _ ?_⟩
    rw [pre, dc_if_n (fun q => by have := (ans_11 he hc).mp q; omega), show ans e c = nI c from if_pos h0, ev_classAt_t n hR.1 hR.2.2.2.1 hcn, dc_bd_s, dc_if_n (fun q => by cases q), dc_nn_s, dc_nn_e (hR.2.2.2.1.2.2.2.2 c hcn).2.2.1, (hR.2.2.1.2.2.2.2.1 _ hfl).2.2.2.2.2.1, hfi, if_neg (by decide), dc_if_p rfl, ef, dc_bd_s]
