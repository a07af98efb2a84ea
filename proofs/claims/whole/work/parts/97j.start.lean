/-- a class's state and static told anew -/
def sC (C : GC) (c v : Nat) : GC := (C.1, C.2.1, C.2.2.1, C.2.2.2.1, va_up (tc_st C) c v, C.2.2.2.2.2)
def sCv (C : GC) (c : Nat) (v : Int64) : GC := (C.1, C.2.1, C.2.2.1, C.2.2.2.1, C.2.2.2.2.1, va_up (tc_sv C) c v)
def stOne (F : GF) (C : GC) (c f : Nat) : Nat × GC := if f ≠ 0 then (f, sC C c 2) else if tf_ct F (tc_fl C c) = 0 then (9, sC C c 2) else (0, sCv (sC C c 1) c ((1000 : Int32) / tf_ct F (tc_fl C c)).toInt64)
def stF (F : GF) : Nat → GC → Nat → Nat × GC
  | 0, C, _ => (0, C)
  | k + 1, C, c => if tc_st C c = 2 then (2, C) else if tc_st C c ≠ 0 then (0, C) else match tc_ab C c with
    | none => stOne F C c 0
    | some a => stOne F (stF F k C a).2 c (stF F k C a).1
/-- what a start leaves as it is -/
def K5 (S S1 : lh_S) : Prop := gvN S1 = gvN S ∧ gvL S1 = gvL S ∧ (∀ b, b ≠ 24 → gvR S1 b = gvR S b) ∧ ∀ b, b ≠ 5 → gvI S1 b = gvI S b ∧ gvJ S1 b = gvJ S b
theorem K5_rf {S : lh_S} : K5 S S := ⟨rfl, rfl, fun _ _ => rfl, fun _ _ => ⟨rfl, rfl⟩⟩
theorem K5_tr {S S1 S2 : lh_S} (h : K5 S S1) (g : K5 S1 S2) : K5 S S2 := ⟨g.1.trans h.1, g.2.1.trans h.2.1, fun b hb => (g.2.2.1 b hb).trans (h.2.2.1 b hb), fun b hb => ⟨(g.2.2.2 b hb).1.trans (h.2.2.2 b hb).1, (g.2.2.2 b hb).2.trans (h.2.2.2 b hb).2⟩⟩
theorem K5_I {S : lh_S} {i k : Nat} {v : Int32} : K5 S (pvI S 5 i k v) := ⟨rfl, rfl, fun _ _ => rfl, fun _ hb => ⟨lh_u3_f hb, rfl⟩⟩
theorem K5_J {S : lh_S} {i k : Nat} {v : Int64} : K5 S (pvJ S 5 i k v) := ⟨rfl, rfl, fun _ _ => rfl, fun _ hb => ⟨rfl, lh_u3_f hb⟩⟩
theorem K5_R {S : lh_S} {i k : Nat} {v : Option Nat} : K5 S (pvR S 24 i k v) := ⟨rfl, rfl, fun _ hb => lh_u3_f hb, fun _ _ => ⟨rfl, rfl⟩⟩
theorem K5_CX {S S1 : lh_S} (h : K5 S S1) (q : CX S) : CX S1 := by
  unfold CX at q ⊢
  rw [h.2.1, h.2.2.1 9 (by decide), h.2.2.1 3 (by decide), h.2.2.1 4 (by decide), h.2.2.1 6 (by decide)]
  exact q
theorem K5_CF {S S1 : lh_S} {F : GF} (h : K5 S S1) (q : CF S F) : CF S1 F := by
  unfold CF at q ⊢
  rw [h.1, h.2.1, h.2.2.1 21 (by decide), h.2.2.1 1 (by decide), h.2.2.1 11 (by decide), (h.2.2.2 9 (by decide)).1, (h.2.2.2 1 (by decide)).1, (h.2.2.2 0 (by decide)).1, (h.2.2.2 0 (by decide)).2]
  exact q
theorem K5_CC_st {S : lh_S} {C : GC} {c v : Nat} (h : CC S C) : CC (pvI S 5 c 4 (nI v)) (sC C c v) := by
  refine ⟨h.1, h.2.1, h.2.2.1, h.2.2.2.1, fun d hd => ?_⟩
  obtain ⟨a1, a2, a3, a4, a5, a6⟩ := h.2.2.2.2 d hd
  refine ⟨(gI_q (by decide)).trans a1, a2, a3, a4, ?_, a6⟩
  show gvI (pvI S 5 c 4 (nI v)) 5 d 4 = nI (va_up (tc_st C) c v d)
  unfold va_up
  by_cases hdc : d = c
  · subst hdc
    rw [gI_s, if_pos rfl]
  · rw [gI_j hdc, if_neg hdc]
    exact a5
theorem K5_CC_sv {S : lh_S} {C : GC} {c : Nat} {v : Int64} (h : CC S C) : CC (pvJ S 5 c 5 v) (sCv C c v) := by
  refine ⟨h.1, h.2.1, h.2.2.1, h.2.2.2.1, fun d hd => ?_⟩
  obtain ⟨a1, a2, a3, a4, a5, a6⟩ := h.2.2.2.2 d hd
  refine ⟨a1, a2, a3, a4, a5, ?_⟩
  show gvJ (pvJ S 5 c 5 v) 5 d 5 = va_up (tc_sv C) c v d
  unfold va_up
  by_cases hdc : d = c
  · subst hdc
    rw [gJ_s, if_pos rfl]
  · rw [gJ_j hdc, if_neg hdc]
    exact a6
theorem cl_startAfter {S : lh_S} {F : GF} {C : GC} (n : Nat) (hF : CF S F) (hC : CC S C) {c f : Nat} (hc : c < tc_n C) (hfl : tc_fl C c < tf_n F) (hf : f ≤ 100) : ∃ S1, f_X5_startAfter n S c (nI f) = some (nI (stOne F C c f).1, S1) ∧ CC S1 (stOne F C c f).2 ∧ K5 S S1 ∧ gvR S1 = gvR S := by
  have a3 := (hC.2.2.2.2 c hc).2.2.1
  have ct := (hF.2.2.2.2.1 _ hfl).2.2.2.2.1
  unfold f_X5_startAfter stOne
  rw [dc_nn_e a3, ct]
  by_cases h0 : f = 0
  · subst h0
    rw [dc_if_p (show nI 0 = (0 : Int32) from rfl), if_neg (by simp)]
    by_cases h1 : tf_ct F (tc_fl C c) = 0
    · rw [dc_if_p h1, if_pos h1, dc_let_q, dc_if_p (show nI 0 = (0 : Int32) from rfl)]
      exact ⟨_, rfl, K5_CC_st (v := 2) hC, K5_I, rfl⟩
    · rw [dc_if_n h1, if_neg h1, dc_let_q, dc_gd_n h1, dc_let_q, dc_let_q]
      exact ⟨_, rfl, K5_CC_sv (K5_CC_st (v := 1) hC), K5_tr K5_I K5_J, rfl⟩
  · have hz : ¬ nI f = (0 : Int32) := fun q => h0 ((nI_eq (a := f) (b := 0) (by omega) (by omega)).mp q)
    rw [dc_if_n hz, if_pos h0, dc_let_q, dc_if_n hz]
    exact ⟨_, rfl, K5_CC_st (v := 2) hC, K5_I, rfl⟩
theorem stOne_keep (F : GF) (C : GC) (c f : Nat) : tc_n (stOne F C c f).2 = tc_n C ∧ tc_fl (stOne F C c f).2 = tc_fl C ∧ tc_ab (stOne F C c f).2 = tc_ab C ∧ tc_ld (stOne F C c f).2 = tc_ld C := by
  unfold stOne
  split
  · exact ⟨rfl, rfl, rfl, rfl⟩
  · split <;> exact ⟨rfl, rfl, rfl, rfl⟩
theorem stOne_f (F : GF) (C : GC) (c : Nat) {f : Nat} (h : f ≤ 100) : (stOne F C c f).1 ≤ 100 := by
  unfold stOne
  split
  · exact h
  · split <;> simp
theorem stF_keep (F : GF) : ∀ (k : Nat) (C : GC) (c : Nat), tc_n (stF F k C c).2 = tc_n C ∧ tc_fl (stF F k C c).2 = tc_fl C ∧ tc_ab (stF F k C c).2 = tc_ab C ∧ tc_ld (stF F k C c).2 = tc_ld C ∧ (stF F k C c).1 ≤ 100 := by
  intro k
  induction k with
  | zero => intro C c; exact ⟨rfl, rfl, rfl, rfl, by simp [stF]⟩
  | succ k ih =>
    intro C c
    unfold stF
    split
    · exact ⟨rfl, rfl, rfl, rfl, by simp⟩
    · split
      · exact ⟨rfl, rfl, rfl, rfl, by simp⟩
      · split
        · obtain ⟨a1, a2, a3, a4⟩ := stOne_keep F C c 0
          exact ⟨a1, a2, a3, a4, stOne_f F C c (by omega)⟩
        · next a ha =>
          obtain ⟨i1, i2, i3, i4, i5⟩ := ih C a
          obtain ⟨a1, a2, a3, a4⟩ := stOne_keep F (stF F k C a).2 c (stF F k C a).1
          exact ⟨a1.trans i1, a2.trans i2, a3.trans i3, a4.trans i4, stOne_f F _ c i5⟩
theorem sub1 (j : Nat) : nI (j + 1) - 1 = nI j := nI_pred j
theorem addm1 (x : Int32) : x + (-1 : Int32) = x - 1 := by
  apply Int32.toBitVec_inj.mp
  simp [BitVec.sub_eq_add_neg]
theorem cl_start {F : GF} (n : Nat) (hn : 100 ≤ n) (p : Option Nat) : ∀ (k c j g : Nat) (S : lh_S) (C : GC), c < k → c < tc_n C → CX S → CF S F → CC S C → (∀ d, d < tc_n C → tc_fl C d < tf_n F ∧ ∀ a, tc_ab C d = some a → a < d) → j + c < 40 → c + 2 ≤ g → tc_st C c ≤ 2 → (∀ d, d < tc_n C → tc_st C d ≤ 2) →
    ∃ g' S1 v o, f_X9_started_L4 n 0 p g S (nI j) (some c) = f_X9_started_L63 n 0 p g' S1 v o (nI (stF F k C c).1) (nI j - 1) ∧ n ≤ g' + c + 1 ∧ CC S1 (stF F k C c).2 ∧ K5 S S1 ∧ ∀ i, i < j → gvR S1 24 0 i = gvR S 24 0 i := by
  intro k
  induction k with
  | zero => intro c j g S C h; omega
  | succ k ih =>
    intro c j g S C hk hc hX hF hC hI hj hg hst hst2
    obtain ⟨g, rfl⟩ : ∃ q, g = q + 1 := ⟨g - 1, by omega⟩
    have a5 := (hC.2.2.2.2 c hc).2.2.2.2.1
    have a4 := (hC.2.2.2.2 c hc).2.2.2.1
    rw [f_X9_started_L4, dc_if_n (fun q => by cases q), dc_nn_s, a5]
    unfold stF
    by_cases h0 : tc_st C c = 0
    · rw [if_neg (by omega), if_neg (by omega), dc_if_p (by rw [h0]; rfl), dc_if_n (show ¬ (40 : Int32) ≤ nI j from nI_ge (b := 40) (by omega) (by omega)), dc_nn_e (cx_r98 hX), dc_gd_n (by rw [cx_l24 hX]; exact ix_in (by omega) (by omega)), ix_c (by omega), dc_let_q]
      have e3 : gvR (pvR S 24 0 j (some c)) 5 c 3 = tc_ab C c := a4
      have kR : K5 S (pvR S 24 0 j (some c)) := K5_R
      have hC1 : CC (pvR S 24 0 j (some c)) C := hC
      have hX1 := K5_CX kR hX
      have hF1 := K5_CF kR hF
      rw [e3, nI_1]
      cases ha : tc_ab C c with
      | none =>
        obtain ⟨g, rfl⟩ : ∃ q, g = q + 1 := ⟨g - 1, by omega⟩
        obtain ⟨m, rfl⟩ : ∃ q, n = q + 1 := ⟨n - 1, by omega⟩
        rw [f_X9_started_L4, dc_if_p rfl, dc_if_p rfl, sub1, f_X9_started_L63, dc_if_n (nI_pos (by omega)), dc_nn_e (cx_r98 hX1), dc_gd_n (by rw [cx_l24 hX1]; exact ix_in (by omega) (by omega)), ix_c (by omega), dc_nn_e gR_s]
        obtain ⟨S2, s1, s2, s3, s4⟩ := cl_startAfter (m + 1) hF1 hC1 (f := 0) hc (hI c hc).1 (by omega)
        rw [show f_X5_startAfter (m + 1) (pvR S 24 0 j (some c)) c 0 = some (nI (stOne F C c 0).1, S2) from s1, dc_bd_s, addm1]
        refine ⟨m, S2, _, _, rfl, by omega, s2, K5_tr kR s3, fun i hi => ?_⟩
        rw [s4]
        exact gR_q (by omega)
      | some a =>
        have hac := (hI c hc).2 a ha
        obtain ⟨g', S1, v, o, h1, h2, h3, h4, h5⟩ := ih a (j + 1) g (pvR S 24 0 j (some c)) C (by omega) (by omega) hX1 hF1 hC1 hI (by omega) (by omega) (hst2 a (by omega)) hst2
        obtain ⟨i1, i2, i3, i4, i5⟩ := stF_keep F k C a
        obtain ⟨m, rfl⟩ : ∃ q, g' = q + 1 := ⟨g' - 1, by omega⟩
        have hX2 := K5_CX h4 hX1
        have hF2 := K5_CF h4 hF1
        rw [h1, sub1, f_X9_started_L63, dc_if_n (nI_pos (by omega)), dc_nn_e (cx_r98 hX2), dc_gd_n (by rw [cx_l24 hX2]; exact ix_in (by omega) (by omega)), ix_c (by omega), dc_nn_e ((h5 j (by omega)).trans gR_s)]
        obtain ⟨S2, s1, s2, s3, s4⟩ := cl_startAfter n hF2 h3 (c := c) (f := (stF F k C a).1) (by rw [i1]; exact hc) (by rw [i2]; exact (hI c hc).1) i5
        rw [s1, dc_bd_s, addm1]
        refine ⟨m, S2, _, _, rfl, by omega, s2, K5_tr kR (K5_tr h4 s3), fun i hi => ?_⟩
        rw [s4, h5 i (by omega)]
        exact gR_q (by omega)
    · have hz : ¬ nI (tc_st C c) = (0 : Int32) := fun q => h0 ((nI_eq (a := tc_st C c) (b := 0) (by omega) (by omega)).mp q)
      rw [dc_if_n hz, dc_if_n (fun q => by cases q)]
      by_cases h2 : tc_st C c = 2
      · rw [if_pos h2, dc_if_p (by rw [h2]; rfl)]
        exact ⟨n, S, _, _, rfl, by omega, hC, K5_rf, fun _ _ => rfl⟩
      · rw [if_neg h2, if_pos h0, dc_if_n (show ¬ nI (tc_st C c) = (2 : Int32) from fun q => h2 ((nI_eq (a := tc_st C c) (b := 2) (by omega) (by omega)).mp q))]
        exact ⟨n, S, _, _, rfl, by omega, hC, K5_rf, fun _ _ => rfl⟩
