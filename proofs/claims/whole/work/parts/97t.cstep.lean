/-! LOADING: the class's stack of steps; a step is loader, name, file, stage -/
abbrev FR : Type := Nat × Nat × Option Nat × Nat
def CT (S : lh_S) (d : Nat) (st : Nat → FR) : Prop := gvI S 4 0 5 = nI d ∧ d ≤ gvN S 8 ∧ gvN S 8 ≤ 321 ∧ (∀ j, j < gvN S 8 → gvR S 18 0 j = some j) ∧ (∀ j, gvN S 8 ≤ j → j < 321 → gvR S 18 0 j = none) ∧ ∀ j, j < d → gvR S 8 j 0 = some (st j).1 ∧ gvI S 8 j 1 = nI (st j).2.1 ∧ gvR S 8 j 2 = (st j).2.2.1 ∧ gvI S 8 j 3 = nI (st j).2.2.2
def CR (S : lh_S) (L : GL) (F : GF) (C : GC) (O : GO) (N : GN) (d : Nat) (st : Nat → FR) : Prop := CX S ∧ CL S L ∧ CF S F ∧ CC S C ∧ CO S O ∧ CN S N ∧ CT S d st
theorem CT_top {S : lh_S} {d l nm s : Nat} {f : Option Nat} {st : Nat → FR} (h : CT S (d + 1) (va_up st d (l, nm, f, s))) : gvR S 8 d 0 = some l ∧ gvI S 8 d 1 = nI nm ∧ gvR S 8 d 2 = f ∧ gvI S 8 d 3 = nI s ∧ gvR S 18 0 d = some d ∧ gvI S 4 0 5 = nI (d + 1) ∧ d < 321 := by
  obtain ⟨h1, h2, h3, h4, h5, h6⟩ := h
  have h7 := h6 d (by omega)
  rw [va_s] at h7
  exact ⟨h7.1, h7.2.1, h7.2.2.1, h7.2.2.2, h4 d (by omega), h1, by omega⟩
theorem CT_pop {S : lh_S} {d : Nat} {fr : FR} {st : Nat → FR} (h : CT S (d + 1) (va_up st d fr)) : CT (pvI S 4 0 5 (nI d)) d st := by
  obtain ⟨h1, h2, h3, h4, h5, h6⟩ := h
  refine ⟨gI_s, Nat.le_of_succ_le h2, h3, h4, h5, fun j hj => ?_⟩
  have h7 := h6 j (by omega)
  rw [va_n (by omega)] at h7
  exact h7
theorem CC_pop {S : lh_S} {C : GC} {v : Int32} (h : CC S C) : CC (pvI S 4 0 5 v) C := ⟨h.1, h.2.1, (gI_q (by decide)).trans h.2.2.1, h.2.2.2.1, h.2.2.2.2⟩
theorem CR_pop {S : lh_S} {L : GL} {F : GF} {C : GC} {O : GO} {N : GN} {d : Nat} {fr : FR} {st : Nat → FR} (h : CR S L F C O N (d + 1) (va_up st d fr)) : CR (pvI S 4 0 5 (nI d)) L F C O N d st := by
  obtain ⟨hX, hL, hF, hC, hO, hN, hT⟩ := h
  exact ⟨hX, hL, hF, CC_pop hC, hO, hN, CT_pop hT⟩
theorem CT_stage {S : lh_S} {d l nm s : Nat} {f : Option Nat} {st : Nat → FR} (s' : Nat) (h : CT S (d + 1) (va_up st d (l, nm, f, s))) : CT (pvI S 8 d 3 (nI s')) (d + 1) (va_up st d (l, nm, f, s')) := by
  obtain ⟨h1, h2, h3, h4, h5, h6⟩ := h
  refine ⟨h1, h2, h3, h4, h5, fun j hj => ?_⟩
  have h7 := h6 j hj
  by_cases hjd : j = d
  · subst hjd
    rw [va_s] at h7 ⊢
    exact ⟨h7.1, (gI_q (by decide)).trans h7.2.1, h7.2.2.1, gI_s⟩
  · rw [va_n hjd] at h7 ⊢
    exact ⟨h7.1, (gI_q (by decide)).trans h7.2.1, h7.2.2.1, (gI_j hjd).trans h7.2.2.2⟩
theorem CR_stage {S : lh_S} {L : GL} {F : GF} {C : GC} {O : GO} {N : GN} {d l nm s : Nat} {f : Option Nat} {st : Nat → FR} (s' : Nat) (h : CR S L F C O N (d + 1) (va_up st d (l, nm, f, s))) : CR (pvI S 8 d 3 (nI s')) L F C O N (d + 1) (va_up st d (l, nm, f, s')) := by
  obtain ⟨hX, hL, hF, hC, hO, hN, hT⟩ := h
  exact ⟨hX, hL, hF, hC, hO, hN, CT_stage s' hT⟩
theorem CT_file {S : lh_S} {d l nm s : Nat} {f : Option Nat} {st : Nat → FR} (f' : Option Nat) (h : CT S (d + 1) (va_up st d (l, nm, f, s))) : CT (pvR S 8 d 2 f') (d + 1) (va_up st d (l, nm, f', s)) := by
  obtain ⟨h1, h2, h3, h4, h5, h6⟩ := h
  refine ⟨h1, h2, h3, h4, h5, fun j hj => ?_⟩
  have h7 := h6 j hj
  by_cases hjd : j = d
  · subst hjd
    rw [va_s] at h7 ⊢
    exact ⟨(gR_q (by decide)).trans h7.1, h7.2.1, gR_s, h7.2.2.2⟩
  · rw [va_n hjd] at h7 ⊢
    exact ⟨(gR_q (by decide)).trans h7.1, h7.2.1, (gR_j hjd).trans h7.2.2.1, h7.2.2.2⟩
theorem CR_file {S : lh_S} {L : GL} {F : GF} {C : GC} {O : GO} {N : GN} {d l nm s : Nat} {f : Option Nat} {st : Nat → FR} (f' : Option Nat) (h : CR S L F C O N (d + 1) (va_up st d (l, nm, f, s))) : CR (pvR S 8 d 2 f') L F C O N (d + 1) (va_up st d (l, nm, f', s)) := by
  obtain ⟨hX, hL, hF, hC, hO, hN, hT⟩ := h
  exact ⟨hX, hL, hF, hC, hO, hN, CT_file f' hT⟩
theorem CR_open {S : lh_S} {L : GL} {F : GF} {C : GC} {O : GO} {N : GN} {d : Nat} {st : Nat → FR} (n : Nat) (h : CR S L F C O N d st) (hd : d < 321) (l nm : Nat) (f : Option Nat) (s : Nat) : ∃ S', f_X4_open n S 0 (some l) (nI nm) f (nI s) = some (-1, S') ∧ CR S' L F C O N (d + 1) (va_up st d (l, nm, f, s)) := by
  obtain ⟨hX, hL, hF, hC, hO, hN, hT⟩ := h
  obtain ⟨h1, h2, h3, h4, h5, h6⟩ := hT
  have fin : ∀ S1 : lh_S, CX S1 → CL S1 L → CF S1 F → CC S1 C → CO S1 O → CN S1 N → gvI S1 4 0 5 = nI (d + 1) → d + 1 ≤ gvN S1 8 → gvN S1 8 ≤ 321 → (∀ j, j < gvN S1 8 → gvR S1 18 0 j = some j) → (∀ j, gvN S1 8 ≤ j → j < 321 → gvR S1 18 0 j = none) → (∀ j, j < d → gvR S1 8 j 0 = some (st j).1 ∧ gvI S1 8 j 1 = nI (st j).2.1 ∧ gvR S1 8 j 2 = (st j).2.2.1 ∧ gvI S1 8 j 3 = nI (st j).2.2.2) → CR (pvI (pvR (pvI (pvR S1 8 d 0 (some l)) 8 d 1 (nI nm)) 8 d 2 f) 8 d 3 (nI s)) L F C O N (d + 1) (va_up st d (l, nm, f, s)) := by
    intro S1 x1 x2 x3 x4 x5 x6 y1 y2 y3 y4 y5 y6
    refine ⟨x1, x2, x3, x4, x5, x6, y1, y2, y3, y4, y5, fun j hj => ?_⟩
    by_cases hjd : j = d
    · subst hjd
      rw [va_s]
      refine ⟨(gR_q (by decide)).trans gR_s, (gI_q (by decide)).trans gI_s, gR_s, gI_s⟩
    · have h7 := y6 j (by omega)
      rw [va_n hjd]
      exact ⟨(gR_j hjd).trans ((gR_j hjd).trans h7.1), (gI_j hjd).trans ((gI_j hjd).trans h7.2.1), (gR_j hjd).trans ((gR_j hjd).trans h7.2.2.1), (gI_j hjd).trans ((gI_j hjd).trans h7.2.2.2)⟩
  have hlt : nI d < (321 : Int32) := nI_lt (b := 321) hd (by omega)
  have hg : ∀ S1 : lh_S, gvL S1 18 0 = 321 → ¬ (nI d < 0 ∨ gvL S1 18 0 ≤ d) := by
    intro S1 hS1
    rw [hS1]
    rintro (q | q)
    · exact nI_pos (by omega) q
    · omega
  by_cases hN8 : gvN S 8 = d
  · have e0 : gvR S 18 0 d = none := h5 d (by omega) hd
    obtain ⟨S1, hS1⟩ : ∃ S1, S1 = pvI (pvR (pvN S 8 0) 18 0 d (some d)) 4 0 5 (nI (d + 1)) := ⟨_, rfl⟩
    refine ⟨pvI (pvR (pvI (pvR S1 8 d 0 (some l)) 8 d 1 (nI nm)) 8 d 2 f) 8 d 3 (nI s), ?_, ?_⟩
    · unfold f_X4_open
      have e1 : gvI (pvR (pvN S 8 0) 18 0 d (some d)) 4 0 5 = nI d := h1
      have e2 : gvR S1 18 0 d = some d := by rw [hS1]; exact gR_s
      rw [h1, dc_if_p hlt, dc_nn_e (cx_r44 hX), ix_c (by omega), dc_gd_n (hg S (cx_l18 hX)), dc_if_p e0, dc_let_q, hN8]
      unfold f_X8_init
      rw [dc_bd_s, dc_gd_n (hg (pvN S 8 0) (cx_l18 hX)), dc_let_q, e1, nI_1, dc_let_q, dc_let_q, dc_nn_e (show gvR (pvR (pvN S 8 0) 18 0 d (some d)) 4 0 4 = some 0 from cx_r44 hX), ← hS1, ix_c (by omega), dc_gd_n (hg S1 (by rw [hS1]; exact cx_l18 hX)), dc_nn_e e2, dc_let_q, dc_let_q, dc_let_q, dc_let_q]
    · have hn8 : gvN S1 8 = d + 1 := by
        rw [hS1]
        show gvN (pvN S 8 0) 8 = d + 1
        rw [gN_pN, if_pos rfl, hN8]
      refine fin S1 ?_ ?_ ?_ ?_ ?_ ?_ ?_ ?_ ?_ ?_ ?_ ?_
      · rw [hS1]; exact hX
      · rw [hS1]; exact hL
      · rw [hS1]; exact hF
      · rw [hS1]; exact ⟨hC.1, hC.2.1, (gI_q (by decide)).trans hC.2.2.1, hC.2.2.2.1, hC.2.2.2.2⟩
      · rw [hS1]; exact hO
      · rw [hS1]; exact hN
      · rw [hS1]; exact gI_s
      · rw [hn8]; exact Nat.le_refl _
      · rw [hn8]; omega
      · intro j hj
        rw [hn8] at hj
        rw [hS1]
        show gvR (pvR (pvN S 8 0) 18 0 d (some d)) 18 0 j = some j
        by_cases hjd : j = d
        · subst hjd
          exact gR_s
        · rw [gR_q hjd]
          exact h4 j (by omega)
      · intro j hj hj2
        rw [hn8] at hj
        rw [hS1]
        show gvR (pvR (pvN S 8 0) 18 0 d (some d)) 18 0 j = none
        rw [gR_q (by omega)]
        exact h5 j (by omega) hj2
      · intro j hj
        have h7 := h6 j hj
        rw [hS1]
        have hne : ¬ (8 = 8 ∧ j = gvN S 8) := fun q => by omega
        refine ⟨?_, ?_, ?_, ?_⟩
        · show gvR (pvN S 8 0) 8 j 0 = _
          rw [gR_pN, if_neg hne]; exact h7.1
        · show gvI (pvN S 8 0) 8 j 1 = _
          rw [gI_pN, if_neg hne]; exact h7.2.1
        · show gvR (pvN S 8 0) 8 j 2 = _
          rw [gR_pN, if_neg hne]; exact h7.2.2.1
        · show gvI (pvN S 8 0) 8 j 3 = _
          rw [gI_pN, if_neg hne]; exact h7.2.2.2
  · have e0 : gvR S 18 0 d = some d := h4 d (by omega)
    obtain ⟨S1, hS1⟩ : ∃ S1, S1 = pvI S 4 0 5 (nI (d + 1)) := ⟨_, rfl⟩
    refine ⟨pvI (pvR (pvI (pvR S1 8 d 0 (some l)) 8 d 1 (nI nm)) 8 d 2 f) 8 d 3 (nI s), ?_, ?_⟩
    · unfold f_X4_open
      have e2 : gvR S1 18 0 d = some d := by rw [hS1]; exact e0
      rw [h1, dc_if_p hlt, dc_nn_e (cx_r44 hX), ix_c (by omega), dc_gd_n (hg S (cx_l18 hX)), dc_if_n (by rw [e0]; exact fun q => by cases q), nI_1, ← hS1, dc_let_q, dc_gd_n (hg S1 (by rw [hS1]; exact cx_l18 hX)), dc_nn_e e2, dc_let_q, dc_let_q, dc_let_q, dc_let_q]
    · refine fin S1 ?_ ?_ ?_ ?_ ?_ ?_ ?_ ?_ ?_ ?_ ?_ ?_
      · rw [hS1]; exact hX
      · rw [hS1]; exact hL
      · rw [hS1]; exact hF
      · rw [hS1]; exact CC_pop hC
      · rw [hS1]; exact hO
      · rw [hS1]; exact hN
      · rw [hS1]; exact gI_s
      · rw [hS1]; show d + 1 ≤ gvN S 8; omega
      · rw [hS1]; exact h3
      · rw [hS1]; exact h4
      · rw [hS1]; exact h5
      · rw [hS1]; exact h6
/-- one LOAD is noted -/
def nt (N : GN) (l nm : Nat) : GN := (tn_ld N + 1, va_up (tn_rg N) (tn_ld N % 30) ((64 : Int32) * nI l + nI nm), tn_lf N)
theorem CR_note {S : lh_S} {L : GL} {F : GF} {C : GC} {O : GO} {N : GN} {d : Nat} {st : Nat → FR} (n : Nat) (h : CR S L F C O N d st) (hb : tn_ld N ≤ 1000000000) (l nm : Nat) : ∃ S', f_X6_add n S 0 (nI l) (nI nm) = some ((), S') ∧ CR S' L F C O (nt N l nm) d st := by
  obtain ⟨hX, hL, hF, hC, hO, hN, hT⟩ := h
  obtain ⟨n1, n2, n3, n4, n5⟩ := hN
  obtain ⟨S4, hS4⟩ : ∃ S4, S4 = pvI S 19 0 (tn_ld N % 30) ((64 : Int32) * nI l + nI nm) := ⟨_, rfl⟩
  have e1 : gvI S4 6 0 1 = nI (tn_ld N % 30) := by rw [hS4]; exact n2
  have r1 : (nI (tn_ld N % 30) + 1) - (nI (tn_ld N % 30) + 1) / (30 : Int32) * (30 : Int32) = nI ((tn_ld N + 1) % 30) := by
    rw [nI_1, rem30 (by omega)]
    congr 1
    omega
  have e2 : gvI (pvI S4 6 0 1 (nI ((tn_ld N + 1) % 30))) 6 0 2 = nI (min (tn_ld N) 30) := by
    rw [gI_q (by decide), hS4]; exact n3
  have r2 : (if (30 : Int32) < nI (min (tn_ld N) 30) + 1 then (30 : Int32) else nI (min (tn_ld N) 30) + 1) = nI (min (tn_ld N + 1) 30) := by
    rw [nI_1]
    by_cases h30 : 30 ≤ tn_ld N
    · rw [if_pos (show (30 : Int32) < nI (min (tn_ld N) 30 + 1) from nI_lt (a := 30) (by omega) (by omega)), show min (tn_ld N + 1) 30 = 30 by omega]
      rfl
    · rw [if_neg (show ¬ (30 : Int32) < nI (min (tn_ld N) 30 + 1) from nI_nlt (a := 30) (by omega) (by omega))]
      congr 1
      omega
  have e3 : gvI (pvI (pvI S4 6 0 1 (nI ((tn_ld N + 1) % 30))) 6 0 2 (nI (min (tn_ld N + 1) 30))) 6 0 3 = nI (tn_ld N) := by
    rw [gI_q (by decide), gI_q (by decide), hS4]; exact n1
  refine ⟨pvI (pvI (pvI S4 6 0 1 (nI ((tn_ld N + 1) % 30))) 6 0 2 (nI (min (tn_ld N + 1) 30))) 6 0 3 (nI (tn_ld N + 1)), ?_, ?_⟩
  · unfold f_X6_add
    rw [n2, dc_nn_e (cx_r60 hX), dc_gd_n (by rw [cx_l19 hX]; exact ix_in (by omega) (by omega)), ix_c (by omega), ← hS4, dc_let_q, e1, r1, dc_let_q, dc_let_q, e2, r2, dc_let_q, dc_let_q, e3, nI_1, dc_let_q, dc_let_q]
  · subst hS4
    refine ⟨hX, hL, hF, hC, hO, ⟨gI_s, (gI_q (by decide)).trans ((gI_q (by decide)).trans gI_s), (gI_q (by decide)).trans gI_s, fun j hj => ?_, n5⟩, hT⟩
    show gvI (pvI S 19 0 (tn_ld N % 30) ((64 : Int32) * nI l + nI nm)) 19 0 j = va_up (tn_rg N) (tn_ld N % 30) ((64 : Int32) * nI l + nI nm) j
    by_cases hj2 : j = tn_ld N % 30
    · subst hj2
      rw [gI_s, va_s]
    · rw [gI_q hj2, va_n hj2]
      exact n4 j hj
def kS (L : GL) (l nm c : Nat) : GL := (tl_n L, tl_par L, tl_bnd L, tl_has L, lh_u2 (tl_kn L) l nm (some c), tl_dg L, tl_grp L)
def dS (L : GL) (l nm : Nat) (b : Bool) : GL := (tl_n L, tl_par L, tl_bnd L, tl_has L, tl_kn L, lh_u2 (tl_dg L) l nm b, tl_grp L)
theorem CL_k {S : lh_S} {L : GL} {l nm : Nat} (c : Nat) (h : CL S L) : CL (pvR S 13 l nm (some c)) (kS L l nm c) := by
  obtain ⟨l1, l2, l3, l4, l5, l6, l7⟩ := h
  refine ⟨l1, l2, l3, l4, l5, l6, fun l' n' hl' hn' => ?_⟩
  have h7 := l7 l' n' hl' hn'
  refine ⟨h7.1, ?_, h7.2.2⟩
  show gvR (pvR S 13 l nm (some c)) 13 l' n' = lh_u2 (tl_kn L) l nm (some c) l' n'
  by_cases hq : l' = l ∧ n' = nm
  · obtain ⟨rfl, rfl⟩ := hq
    rw [gR_s, u2_s]
  · rw [gR_pR, if_neg (fun z => hq z.2), u2_n hq]
    exact h7.2.1
theorem CR_k {S : lh_S} {L : GL} {F : GF} {C : GC} {O : GO} {N : GN} {d : Nat} {st : Nat → FR} (l nm c : Nat) (h : CR S L F C O N d st) : CR (pvR S 13 l nm (some c)) (kS L l nm c) F C O N d st := by
  obtain ⟨hX, hL, hF, hC, hO, hN, hT⟩ := h
  exact ⟨hX, CL_k c hL, hF, hC, hO, hN, hT⟩
theorem CL_d {S : lh_S} {L : GL} {l nm : Nat} (b : Bool) (h : CL S L) : CL (pvI S 14 l nm (if b then 1 else 0)) (dS L l nm b) := by
  obtain ⟨l1, l2, l3, l4, l5, l6, l7⟩ := h
  refine ⟨l1, l2, l3, l4, l5, l6, fun l' n' hl' hn' => ?_⟩
  have h7 := l7 l' n' hl' hn'
  refine ⟨h7.1, h7.2.1, ?_, h7.2.2.2⟩
  show gvI (pvI S 14 l nm (if b then 1 else 0)) 14 l' n' = if lh_u2 (tl_dg L) l nm b l' n' then 1 else 0
  by_cases hq : l' = l ∧ n' = nm
  · obtain ⟨rfl, rfl⟩ := hq
    rw [gI_s, u2_s]
  · rw [gI_pI, if_neg (fun z => hq z.2), u2_n hq]
    exact h7.2.2.1
theorem CR_d {S : lh_S} {L : GL} {F : GF} {C : GC} {O : GO} {N : GN} {d : Nat} {st : Nat → FR} (l nm : Nat) (b : Bool) (h : CR S L F C O N d st) : CR (pvI S 14 l nm (if b then 1 else 0)) (dS L l nm b) F C O N d st := by
  obtain ⟨hX, hL, hF, hC, hO, hN, hT⟩ := h
  exact ⟨hX, CL_d b hL, hF, hC, hO, hN, hT⟩
/-- one class more -/
def cS (C : GC) (l f : Nat) (ab : Option Nat) : GC := (tc_n C + 1, va_up (tc_ld C) (tc_n C) l, va_up (tc_fl C) (tc_n C) f, va_up (tc_ab C) (tc_n C) ab, va_up (tc_st C) (tc_n C) 0, va_up (tc_sv C) (tc_n C) 0)
