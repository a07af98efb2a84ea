/-- one that must agree knows another -/
def brd (L : GL) (l nm : Nat) (m : Option Nat) : Bool := oth L (fun j => decide (tl_grp L j nm = tl_grp L l nm)) nm m (tl_n L) 0
theorem ev_barred {S : lh_S} {L : GL} (n : Nat) (hn : 100 ≤ n) (hX : CX S) (hL : CL S L) {l nm : Nat} (hl : l < tl_n L) (hnm : nm < 40) (m : Option Nat) : f_X3_isBarred n S 0 (some l) (nI nm) m = some (if brd L l nm m = true then 1 else 0, S) := by
  have h8 := hL.2.1
  have h5 := hL.2.2.2.2.2.1 l hl
  have h7 := (hL.2.2.2.2.2.2 l nm hl hnm).2.2.2
  unfold f_X3_isBarred f_X3_knowsAnother
  rw [dc_nn_s, dc_nn_e h5.2.2.2.2.2.2.1, dc_gd_n (by rw [h5.2.2.2.2.2.2.2.2.2.2]; exact ix_in hnm (by omega)), ix_c (by omega), show (0 : Int32) = nI 0 from rfl, ev_ka n hX hL (P := fun j => decide (tl_grp L j nm = tl_grp L l nm)) (fun j hj => by rw [h7 j (by omega)]; simp [hj]) hnm m (tl_n L) n 0 (by omega) (by omega) (by omega), dc_bd_s]
  rfl
theorem ev_end {S : lh_S} (n : Nat) {d : Nat} (h : gvI S 4 0 5 = nI (d + 1)) (v : Int32) : f_X4_end n S 0 v = some (v, pvI S 4 0 5 (nI d)) := by
  unfold f_X4_end
  rw [h, nI_pred, dc_let_q]
theorem CR_new {S : lh_S} {L : GL} {F : GF} {C : GC} {O : GO} {N : GN} {d : Nat} {st : Nat → FR} (l f : Nat) (ab : Option Nat) (h : CR S L F C O N d st) (h40 : tc_n C < 40) : CR (pvR (pvI (pvR (pvR (pvR (pvI (pvI (pvN S 5 0) 5 (tc_n C) 4 0) 5 (tc_n C) 0 (nI (tc_n C))) 5 (tc_n C) 1 (some l)) 5 (tc_n C) 2 (some f)) 5 (tc_n C) 3 ab) 4 0 3 (nI (tc_n C + 1))) 17 0 (tc_n C) (some (tc_n C))) L F (cS C l f ab) O N d st := by
  obtain ⟨hX, hL, hF, hC, hO, hN, hT⟩ := h
  obtain ⟨c1, c2, c3, c4, c5⟩ := hC
  refine ⟨hX, hL, hF, ⟨?_, ?_, rfl, fun c hc => ?_, fun c hc => ?_⟩, hO, hN, hT⟩
  · show tc_n C + 1 ≤ 40
    omega
  · show gvN (pvN S 5 0) 5 = tc_n C + 1
    rw [gN_pN, if_pos rfl, c2]
  · have hc : c < tc_n C + 1 := hc
    by_cases hck : c = tc_n C
    · subst hck
      exact gR_s
    · rw [gR_q hck]
      exact c4 c (by omega)
  · have hc : c < tc_n C + 1 := hc
    have e1 : tc_ld (cS C l f ab) c = va_up (tc_ld C) (tc_n C) l c := rfl
    have e2 : tc_fl (cS C l f ab) c = va_up (tc_fl C) (tc_n C) f c := rfl
    have e3 : tc_ab (cS C l f ab) c = va_up (tc_ab C) (tc_n C) ab c := rfl
    have e4 : tc_st (cS C l f ab) c = va_up (tc_st C) (tc_n C) 0 c := rfl
    have e5 : tc_sv (cS C l f ab) c = va_up (tc_sv C) (tc_n C) 0 c := rfl
    rw [e1, e2, e3, e4, e5]
    by_cases hck : c = tc_n C
    · subst hck
      rw [va_s, va_s, va_s, va_s, va_s]
      refine ⟨?_, ?_, ?_, ?_, ?_, ?_⟩ <;> simp [gI_pI, gI_pR, gI_pN, gR_pI, gR_pR, gR_pN, gJ_pI, gJ_pR, gJ_pN, c2]
      rfl
    · rw [va_n hck, va_n hck, va_n hck, va_n hck, va_n hck]
      obtain ⟨y1, y2, y3, y4, y5, y6⟩ := c5 c (by omega)
      refine ⟨?_, ?_, ?_, ?_, ?_, ?_⟩ <;> simp [gI_pI, gI_pR, gI_pN, gR_pI, gR_pR, gR_pN, gJ_pI, gJ_pR, gJ_pN, c2, hck, y1, y2, y3, y4, y5, y6]
theorem CR_finish {S : lh_S} {L : GL} {F : GF} {C : GC} {O : GO} {N : GN} {d l nm f s : Nat} {st : Nat → FR} (n : Nat) (hn : 100 ≤ n) (h : CR S L F C O N (d + 1) (va_up st d (l, nm, some f, s))) (hl : l < tl_n L) (hnm : nm < 40) (ab : Option Nat) :
    (brd L l nm none = true → ∃ S', f_X4_finish n S 0 (some d) ab = some (-13, S') ∧ CR S' L F C O N d st) ∧
    (brd L l nm none = false → tc_n C = 40 → ∃ S', f_X4_finish n S 0 (some d) ab = some (-22, S') ∧ CR S' L F C O N d st) ∧
    (brd L l nm none = false → tc_n C < 40 → ∃ S', f_X4_finish n S 0 (some d) ab = some (nI (tc_n C), S') ∧ CR S' (kS L l nm (tc_n C)) F (cS C l f ab) O N d st) := by
  obtain ⟨hX, hL, hF, hC, hO, hN, hT⟩ := id h
  obtain ⟨t1, t2, t3, t4, t5, t6, t7⟩ := CT_top hT
  have hp := CR_pop h
  have h40 := hC.1
  refine ⟨fun hb => ?_, fun hb hf => ?_, fun hb hf => ?_⟩
  · refine ⟨_, ?_, hp⟩
    unfold f_X4_finish
    rw [dc_nn_s, dc_nn_e (cx_r40 hX), t1, t2, ev_barred n hn hX hL hl hnm none, hb, if_pos rfl, dc_bd_s, dc_if_n (by decide), show f_X9_failed n S 3 = some (-10 - 3, S) from rfl, dc_bd_s, ev_end n t6, dc_bd_s]
    rfl
  · refine ⟨_, ?_, hp⟩
    unfold f_X4_finish
    rw [dc_nn_s, dc_nn_e (cx_r40 hX), t1, t2, ev_barred n hn hX hL hl hnm none, hb, if_neg (by decide), dc_bd_s, dc_if_p rfl, hC.2.2.1, hf, dc_if_n (by decide), show f_X9_failed n S 12 = some (-10 - 12, S) from rfl, dc_bd_s, ev_end n t6, dc_bd_s]
    rfl
  · obtain ⟨S7, hS7⟩ : ∃ S7, S7 = pvR (pvI (pvR (pvR (pvR (pvI (pvI (pvN S 5 0) 5 (tc_n C) 4 0) 5 (tc_n C) 0 (nI (tc_n C))) 5 (tc_n C) 1 (some l)) 5 (tc_n C) 2 (some f)) 5 (tc_n C) 3 ab) 4 0 3 (nI (tc_n C + 1))) 17 0 (tc_n C) (some (tc_n C)) := ⟨_, rfl⟩
    have hR := CR_new l f ab h hf
    rw [← hS7] at hR
    have hR2 := CR_k l nm (tc_n C) hR
    have hL5 := hR.2.1.2.2.2.2.2.1 l hl
    have u := CT_top hR.2.2.2.2.2.2
    have u2 := CT_top hR2.2.2.2.2.2.2
    have hc2 := hR2.2.2.2.1.2.2.2.2 (tc_n C) (show tc_n C < tc_n C + 1 by omega)
    refine ⟨_, ?_, CR_pop hR2⟩
    have g1 : gvI (pvN S 5 0) 4 0 3 = nI (tc_n C) := hC.2.2.1
    have g2 : gvR (pvN S 5 0) 8 d 0 = some l := t1
    have g3 : gvR (pvN S 5 0) 8 d 2 = some f := t3
    unfold f_X4_finish
    rw [dc_nn_s, dc_nn_e (cx_r40 hX), t1, t2, ev_barred n hn hX hL hl hnm none, hb, if_neg (by decide), dc_bd_s, dc_if_p rfl, hC.2.2.1, dc_if_p (show nI (tc_n C) < (40 : Int32) from nI_lt (b := 40) hf (by omega)), dc_let_q, g1, g2, g3, hC.2.1]
    unfold f_X5_init
    have g4 : gvI (pvR (pvR (pvR (pvI (pvI (pvN S 5 0) 5 (tc_n C) 4 0) 5 (tc_n C) 0 (nI (tc_n C))) 5 (tc_n C) 1 (some l)) 5 (tc_n C) 2 (some f)) 5 (tc_n C) 3 ab) 4 0 3 = nI (tc_n C) := hC.2.2.1
    have g5 : gvR (pvR (pvR (pvR (pvI (pvI (pvN S 5 0) 5 (tc_n C) 4 0) 5 (tc_n C) 0 (nI (tc_n C))) 5 (tc_n C) 1 (some l)) 5 (tc_n C) 2 (some f)) 5 (tc_n C) 3 ab) 4 0 2 = some 0 := cx_r42 hX
    have g6 : gvL (pvI (pvR (pvR (pvR (pvI (pvI (pvN S 5 0) 5 (tc_n C) 4 0) 5 (tc_n C) 0 (nI (tc_n C))) 5 (tc_n C) 1 (some l)) 5 (tc_n C) 2 (some f)) 5 (tc_n C) 3 ab) 4 0 3 (nI (tc_n C + 1))) 17 0 = 40 := cx_l17 hX
    rw [dc_let_q, dc_let_q, dc_let_q, dc_let_q, dc_let_q, dc_bd_s, g4, nI_1, dc_let_q, dc_let_q, dc_nn_e g5, dc_gd_n (by rw [g6]; exact ix_in hf (by omega)), ix_c (by omega), ← hS7, dc_let_q, dc_nn_e u.1, dc_nn_e hL5.2.2.2.2.1, u.2.1, dc_gd_n (by rw [hL5.2.2.2.2.2.2.2.2.1]; exact ix_in hnm (by omega)), ix_c (by omega), dc_let_q, hc2.1, ev_end n u2.2.2.2.2.2.1, dc_bd_s]
/-- k turns of the class -/
def cGo (n k : Nat) (S : lh_S) (v : Int32) (S' : lh_S) (v' : Int32) : Prop := ∀ g w, w + k ≤ 1000000 → f_X4_settle_L4 n 0 (k + g) S v (nI w) = f_X4_settle_L4 n 0 g S' v' (nI (w + k))
theorem cGo_trans {n k k2 : Nat} {S S1 S2 : lh_S} {v v1 v2 : Int32} (h1 : cGo n k S v S1 v1) (h2 : cGo n k2 S1 v1 S2 v2) : cGo n (k + k2) S v S2 v2 := by
  intro g w hw
  rw [show k + k2 + g = k + (k2 + g) by omega, h1 (k2 + g) w (by omega), h2 g (w + k) (by omega), show w + k + k2 = w + (k + k2) by omega]
theorem cGo_of {S S' : lh_S} {d l nm s : Nat} {f : Option Nat} {st : Nat → FR} {n : Nat} {v r : Int32} (hX : CX S) (hT : CT S (d + 1) (va_up st d (l, nm, f, s))) (hs : s ≤ 6) (e : (if s = 0 then f_X4_begin n S 0 (some d) else if s = 1 then f_X4_takeFromFirstParent n S 0 (some d) v else if s = 2 then f_X4_takeFromParent n S 0 (some d) v else if s = 3 then f_X4_tryItselfFirst n S 0 (some d) else if s = 4 then f_X4_tryItself n S 0 (some d) else if s = 5 then f_X4_beginToDefine n S 0 (some d) else f_X4_takeAbove n S 0 (some d) v) = some (r, S')) : cGo n 1 S v S' r := by
  obtain ⟨t1, t2, t3, t4, t5, t6, t7⟩ := CT_top hT
  intro g w hw
  rw [show 1 + g = g + 1 by omega, f_X4_settle_L4, dc_if_n (show ¬ (1000000 : Int32) ≤ nI w from nI_ge (b := 1000000) (by omega) (by omega)), t6, dc_if_n (nI_nle (by omega) (by omega)), dc_nn_e (cx_r44 hX), show nI (d + 1) - (1 : Int32) = nI d from nI_pred d, dc_gd_n (by rw [cx_l18 hX]; exact ix_in t7 (by omega)), ix_c (by omega), t5, dc_nn_s, t4, nI_1]
  have : s = 0 ∨ s = 1 ∨ s = 2 ∨ s = 3 ∨ s = 4 ∨ s = 5 ∨ s = 6 := by omega
  rcases this with rfl | rfl | rfl | rfl | rfl | rfl | rfl
  · have e : f_X4_begin n S 0 (some d) = some (r, S') := e
    rw [dc_if_p (by decide), e, dc_bd_s]
  · have e : f_X4_takeFromFirstParent n S 0 (some d) v = some (r, S') := e
    rw [dc_if_n (by decide), dc_if_p (by decide), e, dc_bd_s]
  · have e : f_X4_takeFromParent n S 0 (some d) v = some (r, S') := e
    rw [dc_if_n (by decide), dc_if_n (by decide), dc_if_p (by decide), e, dc_bd_s]
  · have e : f_X4_tryItselfFirst n S 0 (some d) = some (r, S') := e
    rw [dc_if_n (by decide), dc_if_n (by decide), dc_if_n (by decide), dc_if_p (by decide), e, dc_bd_s]
  · have e : f_X4_tryItself n S 0 (some d) = some (r, S') := e
    rw [dc_if_n (by decide), dc_if_n (by decide), dc_if_n (by decide), dc_if_n (by decide), dc_if_p (by decide), e, dc_bd_s]
  · have e : f_X4_beginToDefine n S 0 (some d) = some (r, S') := e
    rw [dc_if_n (by decide), dc_if_n (by decide), dc_if_n (by decide), dc_if_n (by decide), dc_if_n (by decide), dc_if_p (by decide), e, dc_bd_s]
  · have e : f_X4_takeAbove n S 0 (some d) v = some (r, S') := e
    rw [dc_if_n (by decide), dc_if_n (by decide), dc_if_n (by decide), dc_if_n (by decide), dc_if_n (by decide), dc_if_n (by decide), e, dc_bd_s]
theorem CR_ask {S : lh_S} {L : GL} {F : GF} {C : GC} {O : GO} {N : GN} {d l nm s : Nat} {f : Option Nat} {st : Nat → FR} (n : Nat) (h : CR S L F C O N (d + 1) (va_up st d (l, nm, f, s))) (hl : l < tl_n L) (h0 : l ≠ 0) (hd : d + 1 < 321) (s' : Nat) : ∃ S', f_X4_askParent n S 0 (some d) (nI s') = some (-1, S') ∧ CR S' L F C O N (d + 2) (va_up (va_up st d (l, nm, f, s')) (d + 1) (tl_par L l, nm, none, 0)) := by
  have h2 := CR_stage s' h
  obtain ⟨t1, t2, t3, t4, t5, t6, t7⟩ := CT_top h2.2.2.2.2.2.2
  have hp := (h2.2.1.2.2.2.2.2.1 l hl).2.1
  rw [if_neg h0] at hp
  obtain ⟨S', e, hR⟩ := CR_open n h2 hd (tl_par L l) nm none 0
  refine ⟨S', ?_, hR⟩
  unfold f_X4_askParent
  rw [dc_nn_s, dc_let_q, dc_nn_e t1, hp, t2, show (0 : Int32) = nI 0 from rfl, e, dc_bd_s]
/-- a LOAD begins -/
theorem T0 {S : lh_S} {L : GL} {F : GF} {C : GC} {O : GO} {N : GN} {d l nm : Nat} {f : Option Nat} {st : Nat → FR} (n : Nat) (h : CR S L F C O N (d + 1) (va_up st d (l, nm, f, 0))) (hb : tn_ld N ≤ 1000000000) (hl : l < tl_n L) (hnm : nm < 40) (v : Int32) :
    (∀ c, tl_kn L l nm = some c → c < tc_n C → ∃ S', CR S' L F C O (nt N l nm) d st ∧ cGo n 1 S v S' (nI c)) ∧
    (tl_kn L l nm = none → tl_dg L l nm = true → ∃ S', CR S' L F C O (nt N l nm) d st ∧ cGo n 1 S v S' (-16)) ∧
    (tl_kn L l nm = none → tl_dg L l nm = false → l ≠ 0 → ¬ tl_bnd L l ≤ nI nm → d + 1 < 321 → ∃ S', CR S' L F C O (nt N l nm) (d + 2) (va_up (va_up st d (l, nm, f, 1)) (d + 1) (tl_par L l, nm, none, 0)) ∧ cGo n 1 S v S' (-1)) ∧
    (tl_kn L l nm = none → tl_dg L l nm = false → (l = 0 ∨ tl_bnd L l ≤ nI nm) → ∃ S', CR S' L F C O (nt N l nm) (d + 1) (va_up st d (l, nm, f, 3)) ∧ cGo n 1 S v S' (-1)) := by
  obtain ⟨hX, hL, hF, hC, hO, hN, hT⟩ := id h
  obtain ⟨t1, t2, t3, t4, t5, t6, t7⟩ := CT_top hT
  obtain ⟨S7, e7, h7⟩ := CR_note n h hb l nm
  have hp := CR_pop h7
  have u := CT_top h7.2.2.2.2.2.2
  have a5 := hL.2.2.2.2.2.1 l hl
  have b5 := h7.2.1.2.2.2.2.2.1 l hl
  have b7 := h7.2.1.2.2.2.2.2.2 l nm hl hnm
  have go : ∀ r S', f_X4_begin n S 0 (some d) = some (r, S') → cGo n 1 S v S' r := fun r S' e => cGo_of hX hT (by omega) e
  have pre : f_X4_begin n S 0 (some d) = dc_if (tl_kn L l nm = none) (dc_if ((if tl_dg L l nm = true then (1 : Int32) else 0) = 0) (
      dc_bd (f_X2_asksParentFirst n S7 l (nI nm)) fun r19 S20 =>
      dc_if (r19 = 0) (
      dc_let (pvI S20 8 d 3 (3 : Int32)) fun S25 =>
      some ((-1 : Int32), S25)) (
      dc_bd (f_X4_askParent n S20 0 (some d) (1 : Int32)) fun r27 S28 =>
      some (r27, S28))) (some (-16, pvI S7 4 0 5 (nI d)))) (
      dc_nn (tl_kn L l nm) fun x41 => some (gvI S7 5 x41 0, pvI S7 4 0 5 (nI d))) := by
    unfold f_X4_begin
    rw [dc_nn_s, dc_nn_e t1, dc_nn_e (cx_r41 hX), a5.1, t2, e7, dc_bd_s, dc_nn_e b5.2.2.2.2.1, u.2.1, dc_gd_n (by rw [b5.2.2.2.2.2.2.2.2.1]; exact ix_in hnm (by omega)), ix_c (by omega), b7.2.1, dc_nn_e b5.2.2.2.2.2.1, dc_gd_n (by rw [b5.2.2.2.2.2.2.2.2.2.1]; rintro (q | q); exact nI_pos (by omega) q; omega), b7.2.2.1, show f_X9_failed n S7 6 = some (-16, S7) from rfl, dc_bd_s, ev_end n u.2.2.2.2.2.1, dc_bd_s]
    simp only [ev_end n u.2.2.2.2.2.1, dc_bd_s]
  refine ⟨fun c hc hcn => ?_, fun hk hd => ?_, fun hk hd h0 hbd h321 => ?_, fun hk hd h0 => ?_⟩
  · refine ⟨_, hp, go _ _ ?_⟩
    rw [pre, hc, dc_if_n (fun q => by cases q), dc_nn_s, (h7.2.2.2.1.2.2.2.2 c hcn).1]
  · refine ⟨_, hp, go _ _ ?_⟩
    rw [pre, dc_if_p hk, hd, if_pos rfl, dc_if_n (by decide)]
  · obtain ⟨S', e, hR⟩ := CR_ask n h7 hl h0 h321 1
    refine ⟨S', hR, go _ _ ?_⟩
    have e2 : f_X2_asksParentFirst n S7 l (nI nm) = some (1, S7) := by
      unfold f_X2_asksParentFirst
      rw [b5.2.1, if_neg h0, dc_if_n (fun q => by cases q), b5.2.2.1, dc_if_n hbd]
    rw [pre, dc_if_p hk, hd, if_neg (by decide), dc_if_p rfl, e2, dc_bd_s, dc_if_n (by decide), show f_X4_askParent n S7 0 (some d) (1 : Int32) = some (-1, S') from e, dc_bd_s]
  · refine ⟨_, CR_stage 3 h7, go _ _ ?_⟩
    have e2 : f_X2_asksParentFirst n S7 l (nI nm) = some (0, S7) := by
      unfold f_X2_asksParentFirst
      by_cases h00 : l = 0
      · rw [b5.2.1, if_pos h00, dc_if_p rfl]
      · rw [b5.2.1, if_neg h00, dc_if_n (fun q => by cases q), b5.2.2.1, dc_if_p]
        rcases h0 with h0 | h0
        · exact absurd h0 h00
        · exact h0
    rw [pre, dc_if_p hk, hd, if_neg (by decide), dc_if_p rfl, e2, dc_bd_s, dc_if_p rfl, dc_let_q]
    rfl
/-- what the class answers: a class, or a failure -/
def ans (e c : Nat) : Int32 := if e = 0 then nI c else -10 - nI e
theorem ans_neg {e c : Nat} (h0 : e ≠ 0) (h : e ≤ 100) : ans e c < 0 := by
  unfold ans
  rw [if_neg h0, Int32.lt_iff_toInt_lt]
  have h1 := nI_toInt (n := e) (by omega)
  have h2 : ((-10 : Int32) - nI e).toInt = -10 - (e : Int) := by
    rw [Int32.toInt_sub, h1]
    show Int.bmod (-10 - (e : Int)) (2 ^ 32) = _
    rw [Int.bmod_def]
    omega
  rw [h2]
  show -10 - (e : Int) < 0
  omega
theorem ans_11 {e c : Nat} (h : e ≤ 100) (hc : c < 100) : ans e c = -11 ↔ e = 1 := by
  constructor
  · intro q
    by_cases h0 : e = 0
    · exfalso
      unfold ans at q
      rw [if_pos h0] at q
      have := congrArg Int32.toInt q
      rw [nI_toInt (by omega)] at this
      have h11 : ((-11 : Int32)).toInt = -11 := rfl
      rw [h11] at this
      omega
    · unfold ans at q
      rw [if_neg h0] at q
      have h1 := nI_toInt (n := e) (by omega)
      have h2 : ((-10 : Int32) - nI e).toInt = -10 - (e : Int) := by
        rw [Int32.toInt_sub, h1]
        show Int.bmod (-10 - (e : Int)) (2 ^ 32) = _
        rw [Int.bmod_def]
        omega
      rw [q] at h2
      have h11 : ((-11 : Int32)).toInt = -11 := rfl
      rw [h11] at h2
      omega
  · intro q
    subst q
    rfl
/-- what came from the parent is taken -/
theorem TP {S : lh_S} {L : GL} {F : GF} {C : GC} {O : GO} {N : GN} {d l nm s : Nat} {f : Option Nat} {st : Nat → FR} (n : Nat) (hn : 100 ≤ n) (h : CR S L F C O N (d + 1) (va_up st d (l, nm, f, s))) (hl : l < tl_n L) (hnm : nm < 40) {e c : Nat} (he : e ≤ 100) :
    (e ≠ 0 → ∃ S', CR S' L F C O N d st ∧ f_X4_takeFromParent n S 0 (some d) (ans e c) = some (ans e c, S')) ∧
    (e = 0 → c < tc_n C → brd L l nm (some c) = true → ∃ S', CR S' L F C O N d st ∧ f_X4_takeFromParent n S 0 (some d) (ans e c) = some (-13, S')) ∧
    (e = 0 → c < tc_n C → brd L l nm (some c) = false → ∃ S', CR S' (kS L l nm c) F C O N d st ∧ f_X4_takeFromParent n S 0 (some d) (ans e c) = some (ans e c, S')) := by
  obtain ⟨hX, hL, hF, hC, hO, hN, hT⟩ := id h
  obtain ⟨t1, t2, t3, t4, t5, t6, t7⟩ := CT_top hT
  have hp := CR_pop h
  have a5 := hL.2.2.2.2.2.1 l hl
  refine ⟨fun h0 => ?_, fun h0 hc hb => ?_, fun h0 hc hb => ?_⟩
  · refine ⟨_, hp, ?_⟩
    unfold f_X4_takeFromParent
    rw [ev_classAt_f n hC (Or.inl (ans_neg h0 he)), dc_bd_s, dc_if_p rfl, ev_end n t6, dc_bd_s]
  · refine ⟨_, hp, ?_⟩
    unfold f_X4_takeFromParent
    rw [show ans e c = nI c from if_pos h0, ev_classAt_t n hX hC hc, dc_bd_s, dc_if_n (fun q => by cases q), dc_nn_s, dc_nn_e (cx_r40 hX), t1, t2, ev_barred n hn hX hL hl hnm, hb, if_pos rfl, dc_bd_s, dc_if_n (by decide), show f_X9_failed n S 3 = some (-10 - 3, S) from rfl, dc_bd_s, ev_end n t6, dc_bd_s]
    rfl
  · have h2 := CR_k l nm c h
    refine ⟨_, CR_pop h2, ?_⟩
    unfold f_X4_takeFromParent
    rw [show ans e c = nI c from if_pos h0, ev_classAt_t n hX hC hc, dc_bd_s, dc_if_n (fun q => by cases q), dc_nn_s, dc_nn_e (cx_r40 hX), t1, t2, ev_barred n hn hX hL hl hnm, hb, if_neg (by decide), dc_bd_s, dc_if_p rfl, t1, dc_nn_s, dc_nn_e a5.2.2.2.2.1, t2, dc_gd_n (by rw [a5.2.2.2.2.2.2.2.2.1]; exact ix_in hnm (by omega)), ix_c (by omega), dc_let_q, ev_end n (CT_top h2.2.2.2.2.2.2).2.2.2.2.2.1, dc_bd_s]
