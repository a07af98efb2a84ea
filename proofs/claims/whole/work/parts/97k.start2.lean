def KR (S S1 : lh_S) : Prop := gvN S1 = gvN S ∧ gvL S1 = gvL S ∧ gvR S1 = gvR S ∧ (∀ b, b ≠ 52 → b ≠ 65 → gvI S1 b = gvI S b) ∧ ∀ b, b ≠ 53 → gvJ S1 b = gvJ S b
theorem KR_rf {S : lh_S} : KR S S := ⟨rfl, rfl, rfl, fun _ _ _ => rfl, fun _ _ => rfl⟩
theorem KR_tr {S S1 S2 : lh_S} (h : KR S S1) (g : KR S1 S2) : KR S S2 := ⟨g.1.trans h.1, g.2.1.trans h.2.1, g.2.2.1.trans h.2.2.1, fun b hb hb2 => (g.2.2.2.1 b hb hb2).trans (h.2.2.2.1 b hb hb2), fun b hb => (g.2.2.2.2 b hb).trans (h.2.2.2.2 b hb)⟩
theorem KR_52 {S : lh_S} {i k : Nat} {v : Int32} : KR S (pvI S 52 i k v) := ⟨rfl, rfl, rfl, fun _ hb _ => lh_u3_f hb, fun _ _ => rfl⟩
theorem KR_65 {S : lh_S} {i k : Nat} {v : Int32} : KR S (pvI S 65 i k v) := ⟨rfl, rfl, rfl, fun _ _ hb => lh_u3_f hb, fun _ _ => rfl⟩
theorem KR_53 {S : lh_S} {i k : Nat} {v : Int64} : KR S (pvJ S 53 i k v) := ⟨rfl, rfl, rfl, fun _ _ _ => rfl, fun _ hb => lh_u3_f hb⟩
theorem KR_QX {S S1 : lh_S} (h : KR S S1) (q : QX S) : QX S1 := by
  unfold QX at q ⊢
  rw [h.2.1, h.2.2.1]
  exact q
theorem KR_QF {S S1 : lh_S} {F : GF} (h : KR S S1) (q : QF S F) : QF S1 F := by
  have e := fun b h1 h2 => h.2.2.2.1 b h1 h2
  unfold QF at q ⊢
  rw [e 10 (by decide) (by decide), e 32 (by decide) (by decide), e 33 (by decide) (by decide), e 34 (by decide) (by decide), e 35 (by decide) (by decide), e 36 (by decide) (by decide), e 37 (by decide) (by decide), e 38 (by decide) (by decide), e 39 (by decide) (by decide)]
  exact q
theorem QC_st {S : lh_S} {C : GC} {F : GF} {c v : Nat} (hc : c < tc_n C) (h : QC S C F) : QC (pvI S 52 0 c (nI v)) (sC C c v) F := by
  refine ⟨h.1, fun d hd => ?_, fun d hd h40 => ?_⟩
  · obtain ⟨a1, a2, a3, a4, a5, a6⟩ := h.2.1 d hd
    refine ⟨a1, a2, a3, a4, ?_, a6⟩
    show gvI (pvI S 52 0 c (nI v)) 52 0 d = nI (va_up (tc_st C) c v d)
    unfold va_up
    by_cases hdc : d = c
    · subst hdc
      rw [gI_s, if_pos rfl]
    · rw [gI_q hdc, if_neg hdc]
      exact a5
  · have hd : tc_n C ≤ d := hd
    obtain ⟨a1, a2⟩ := h.2.2 d hd h40
    exact ⟨(gI_q (by omega)).trans a1, a2⟩
theorem QC_sv {S : lh_S} {C : GC} {F : GF} {c : Nat} {v : Int64} (hc : c < tc_n C) (h : QC S C F) : QC (pvJ S 53 0 c v) (sCv C c v) F := by
  refine ⟨h.1, fun d hd => ?_, fun d hd h40 => ?_⟩
  · obtain ⟨a1, a2, a3, a4, a5, a6⟩ := h.2.1 d hd
    refine ⟨a1, a2, a3, a4, a5, ?_⟩
    show gvJ (pvJ S 53 0 c v) 53 0 d = va_up (tc_sv C) c v d
    unfold va_up
    by_cases hdc : d = c
    · subst hdc
      rw [gJ_s, if_pos rfl]
    · rw [gJ_q hdc, if_neg hdc]
      exact a6
  · have hd : tc_n C ≤ d := hd
    obtain ⟨a1, a2⟩ := h.2.2 d hd h40
    exact ⟨a1, (gJ_q (by omega)).trans a2⟩
theorem QC_same {S : lh_S} {C : GC} {F : GF} {c : Nat} (h : QC S C F) : QC (pvJ S 53 0 c (gvJ S 53 0 c)) C F := by
  have e : ∀ d, gvJ (pvJ S 53 0 c (gvJ S 53 0 c)) 53 0 d = gvJ S 53 0 d := fun d => by
    by_cases hdc : d = c
    · subst hdc
      rw [gJ_s]
    · rw [gJ_q hdc]
  refine ⟨h.1, fun d hd => ?_, fun d hd h40 => ?_⟩
  · obtain ⟨a1, a2, a3, a4, a5, a6⟩ := h.2.1 d hd
    exact ⟨a1, a2, a3, a4, a5, (e d).trans a6⟩
  · obtain ⟨a1, a2⟩ := h.2.2 d hd h40
    exact ⟨a1, (e d).trans a2⟩
set_option maxHeartbeats 1000000 in
theorem rf_one {S : lh_S} {F : GF} {C : GC} (n : Nat) (p v7 v8 : Int32) (qX : QX S) (qF : QF S F) (qC : QC S C F) (h40 : tc_n C ≤ 40) (h30 : tf_n F ≤ 30) {c f j g : Nat} (hc : c < tc_n C) (hfl : tc_fl C c < tf_n F) (hf : f ≤ 100) (hj : j < 41) (hch : gvI S 65 0 j = nI c) : ∃ S1, f_X10_started_L63 n 0 p (g + 1) S v7 v8 (nI f) (nI j) = f_X10_started_L63 n 0 p g S1 v7 v8 (nI (stOne F C c f).1) (nI j + -1) ∧ QC S1 (stOne F C c f).2 F ∧ KR S S1 ∧ gvI S1 65 = gvI S 65 := by
  have b3 := (qC.2.1 c hc).2.2.1
  have ct := (qF.2.1 _ hfl).2.2.2.1
  have g40 : ∀ {k : Nat}, gvL S k 0 = 40 → ¬ (nI c < 0 ∨ gvL S k 0 ≤ c) := fun {k} hk => by
    rw [hk]
    rintro (q | q)
    · exact nI_pos (by omega) q
    · omega
  rw [f_X10_started_L63, dc_if_n (nI_pos (by omega)), dc_nn_e (qx_35 qX), dc_gd_n (by rw [ql_65 qX]; exact ix_in hj (by omega)), ix_c (by omega), hch, ix_c (by omega), dc_nn_e (qx_20 qX), dc_gd_n (g40 (ql_50 qX)), b3, ix_c (by omega), dc_nn_e (qx_5 qX), dc_gd_n (by
    rw [ql_35 qX]
    rintro (q | q)
    · exact nI_pos (by omega) q
    · omega), ct]
  unfold stOne
  by_cases h0 : f = 0
  · subst h0
    rw [dc_if_p (show nI 0 = (0 : Int32) from rfl), if_neg (by simp)]
    by_cases h1 : tf_ct F (tc_fl C c) = 0
    · rw [dc_if_p h1, if_pos h1, dc_nn_e (qx_22 qX), dc_gd_n (g40 (ql_52 qX)), dc_let_q, dc_nn_e (show gvR (pvI S 52 0 c 2) 10 0 23 = some 0 from qx_23 qX), dc_gd_n (show ¬ (nI c < 0 ∨ gvL (pvI S 52 0 c 2) 53 0 ≤ c) from g40 (ql_53 qX)), dc_gd_n (show ¬ (nI c < 0 ∨ gvL (pvI S 52 0 c 2) 53 0 ≤ c) from g40 (ql_53 qX)), dc_let_q]
      exact ⟨_, rfl, QC_same (QC_st (v := 2) hc qC), KR_tr KR_52 KR_53, rfl⟩
    · rw [dc_if_n h1, if_neg h1, dc_if_p (show nI 0 = (0 : Int32) from rfl), dc_nn_e (qx_22 qX), dc_gd_n (g40 (ql_52 qX)), dc_let_q, dc_if_p (show nI 0 = (0 : Int32) from rfl), dc_gd_n h1, dc_let_q, dc_nn_e (show gvR (pvI S 52 0 c 1) 10 0 23 = some 0 from qx_23 qX), dc_gd_n (show ¬ (nI c < 0 ∨ gvL (pvI S 52 0 c 1) 53 0 ≤ c) from g40 (ql_53 qX)), dc_let_q]
      exact ⟨_, rfl, QC_sv hc (QC_st (v := 1) hc qC), KR_tr KR_52 KR_53, rfl⟩
  · have hz : ¬ nI f = (0 : Int32) := fun q => h0 ((nI_eq (a := f) (b := 0) (by omega) (by omega)).mp q)
    rw [dc_if_n hz, if_pos h0, dc_if_n hz, dc_nn_e (qx_22 qX), dc_gd_n (g40 (ql_52 qX)), dc_let_q, dc_if_n hz, dc_nn_e (show gvR (pvI S 52 0 c 2) 10 0 23 = some 0 from qx_23 qX), dc_gd_n (show ¬ (nI c < 0 ∨ gvL (pvI S 52 0 c 2) 53 0 ≤ c) from g40 (ql_53 qX)), dc_gd_n (show ¬ (nI c < 0 ∨ gvL (pvI S 52 0 c 2) 53 0 ≤ c) from g40 (ql_53 qX)), dc_let_q]
    exact ⟨_, rfl, QC_same (QC_st (v := 2) hc qC), KR_tr KR_52 KR_53, rfl⟩
theorem rf_start {F : GF} (n : Nat) (hn : 100 ≤ n) (p : Int32) (h30 : tf_n F ≤ 30) : ∀ (k c j g : Nat) (S : lh_S) (C : GC), c < k → c < tc_n C → tc_n C ≤ 40 → QX S → QF S F → QC S C F → (∀ d, d < tc_n C → tc_fl C d < tf_n F ∧ ∀ a, tc_ab C d = some a → a < d) → j + c < 40 → c + 2 ≤ g → (∀ d, d < tc_n C → tc_st C d ≤ 2) →
    ∃ g' S1 v o, f_X10_started_L4 n 0 p g S (nI j) (nI c) = f_X10_started_L63 n 0 p g' S1 v o (nI (stF F k C c).1) (nI j - 1) ∧ n ≤ g' + c + 1 ∧ QC S1 (stF F k C c).2 F ∧ KR S S1 ∧ ∀ i, i < j → gvI S1 65 0 i = gvI S 65 0 i := by
  intro k
  induction k with
  | zero => intro c j g S C h; omega
  | succ k ih =>
    intro c j g S C hk hc h40 qX qF qC hI hj hg hst2
    have hst := hst2 c hc
    obtain ⟨g, rfl⟩ : ∃ q, g = q + 1 := ⟨g - 1, by omega⟩
    have b5 := (qC.2.1 c hc).2.2.2.2.1
    have b4 := (qC.2.1 c hc).2.2.2.1
    have g52 : ¬ (nI c < 0 ∨ gvL S 52 0 ≤ (nI c).toNatClampNeg) := by rw [ql_52 qX]; exact ix_in (by omega) (by omega)
    have g52c : ¬ (nI c < 0 ∨ gvL S 52 0 ≤ c) := by rw [ix_c (by omega)] at g52; exact g52
    rw [f_X10_started_L4, dc_if_n (nI_pos (by omega)), dc_nn_e (qx_22 qX), dc_gd_n g52, ix_c (by omega), b5]
    unfold stF
    by_cases h0 : tc_st C c = 0
    · rw [if_neg (by omega), if_neg (by omega), dc_if_p (by rw [h0]; rfl), dc_nn_e (qx_35 qX), dc_gd_n (by rw [ql_65 qX]; exact ix_in (by omega) (by omega)), ix_c (by omega), dc_let_q]
      have kR : KR S (pvI S 65 0 j (nI c)) := KR_65
      have qX1 := KR_QX kR qX
      have qF1 := KR_QF kR qF
      have qC1 : QC (pvI S 65 0 j (nI c)) C F := qC
      rw [dc_nn_e (qx_21 qX1), dc_gd_n (by
        rw [ql_51 qX1]
        rintro (q | q)
        · exact nI_pos (by omega) q
        · omega), show gvI (pvI S 65 0 j (nI c)) 51 0 c = nI (oc (tc_ab C c)) - 1 from b4, nI_1]
      cases ha : tc_ab C c with
      | none =>
        obtain ⟨g, rfl⟩ : ∃ q, g = q + 1 := ⟨g - 1, by omega⟩
        obtain ⟨m, rfl⟩ : ∃ q, n = q + 1 := ⟨n - 1, by omega⟩
        have hm : nI (oc none) - 1 = (-1 : Int32) := rfl
        rw [hm, f_X10_started_L4, dc_if_p (by decide), dc_if_p (by decide), sub1]
        obtain ⟨S2, s1, s2, s3, s4⟩ := rf_one (m + 1) p (nI (j + 1)) (-1) (g := m) (f := 0) qX1 qF1 qC1 h40 h30 hc (hI c hc).1 (by omega) (j := j) (by omega) gI_s
        rw [show f_X10_started_L63 (m + 1) 0 p (m + 1) (pvI S 65 0 j (nI c)) (nI (j + 1)) (-1) 0 (nI j) = _ from s1, addm1]
        refine ⟨m, S2, _, _, rfl, by omega, s2, KR_tr kR s3, fun i hi => ?_⟩
        rw [s4]
        exact gI_q (by omega)
      | some a =>
        have hac := (hI c hc).2 a ha
        rw [show nI (oc (some a)) - 1 = nI a from nI_pred a]
        obtain ⟨g', S1, v, o, h1, h2, h3, h4, h5⟩ := ih a (j + 1) g (pvI S 65 0 j (nI c)) C (by omega) (by omega) h40 qX1 qF1 qC1 hI (by omega) (by omega) hst2
        obtain ⟨i1, i2, i3, i4, i5⟩ := stF_keep F k C a
        obtain ⟨m, rfl⟩ : ∃ q, g' = q + 1 := ⟨g' - 1, by omega⟩
        obtain ⟨S2, s1, s2, s3, s4⟩ := rf_one n p v o (g := m) (f := (stF F k C a).1) (c := c) (KR_QX h4 qX1) (KR_QF h4 qF1) h3 (by rw [i1]; exact h40) h30 (by rw [i1]; exact hc) (by rw [i2]; exact (hI c hc).1) i5 (j := j) (by omega) ((h5 j (by omega)).trans gI_s)
        rw [h1, sub1, s1, addm1]
        refine ⟨m, S2, _, _, rfl, by omega, s2, KR_tr kR (KR_tr h4 s3), fun i hi => ?_⟩
        rw [s4, h5 i (by omega)]
        exact gI_q (by omega)
    · have hz : ¬ nI (tc_st C c) = (0 : Int32) := fun q => h0 ((nI_eq (a := tc_st C c) (b := 0) (by omega) (by omega)).mp q)
      rw [dc_if_n hz, dc_if_n (nI_pos (by omega)), dc_gd_n g52c]
      by_cases h2 : tc_st C c = 2
      · rw [if_pos h2, dc_if_p (by rw [h2]; rfl)]
        exact ⟨n, S, _, _, rfl, by omega, qC, KR_rf, fun _ _ => rfl⟩
      · rw [if_neg h2, if_pos h0, dc_if_n (show ¬ nI (tc_st C c) = (2 : Int32) from fun q => h2 ((nI_eq (a := tc_st C c) (b := 2) (by omega) (by omega)).mp q))]
        exact ⟨n, S, _, _, rfl, by omega, qC, KR_rf, fun _ _ => rfl⟩
