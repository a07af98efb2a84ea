/-! THE START -/
def aL0 : GL := (0, fun _ => 0, fun _ => 0, fun _ _ => none, fun _ _ => none, fun _ _ => false, fun _ _ => 0)
def aF0 : GF := (0, fun _ => 0, fun _ => 0, fun _ => 0, fun _ => 0, fun _ => false, fun _ _ => none)
def aC0 : GC := (0, fun _ => 0, fun _ => 0, fun _ => none, fun _ => 0, fun _ => 0)
def aO0 : GO := (0, fun _ => 0, 0, fun _ => 0, fun _ => 0, fun _ _ => 0)
def aN0 : GN := (0, fun _ => 0, 0)
def hasL (L : GL) (l nm f : Nat) : GL := (tl_n L, tl_par L, tl_bnd L, lh_u2 (tl_has L) l nm (some f), tl_kn L, tl_dg L, tl_grp L)
theorem CL_has {S : lh_S} {L : GL} {l nm : Nat} (f : Nat) (h : CL S L) : CL (pvR S 12 l nm (some f)) (hasL L l nm f) := by
  obtain ⟨l1, l2, l3, l4, l5, l6, l7⟩ := h
  refine ⟨l1, l2, l3, l4, l5, l6, fun l' n' hl' hn' => ?_⟩
  have h7 := l7 l' n' hl' hn'
  refine ⟨?_, h7.2⟩
  show gvR (pvR S 12 l nm (some f)) 12 l' n' = lh_u2 (tl_has L) l nm (some f) l' n'
  by_cases hq : l' = l ∧ n' = nm
  · obtain ⟨rfl, rfl⟩ := hq
    rw [gR_s, u2_s]
  · rw [gR_pR, if_neg (fun z => hq z.2), u2_n hq]
    exact h7.1
theorem QL_has {S : lh_S} {L : GL} {l nm : Nat} (f : Nat) (h : QL S L) (hl : l < tl_n L) (hnm : nm < 40) : QL (pvI S 43 0 (40 * l + nm) (nI (f + 1))) (hasL L l nm f) := by
  obtain ⟨q1, q2, q3, q4⟩ := h
  refine ⟨q1, q2, q3, fun l' n' hl' hn' => ?_⟩
  obtain ⟨y1, y2⟩ := q4 l' n' hl' hn'
  refine ⟨?_, y2⟩
  show gvI (pvI S 43 0 (40 * l + nm) (nI (f + 1))) 43 0 (40 * l' + n') = nI (if l' < tl_n L then oc (lh_u2 (tl_has L) l nm (some f) l' n') else 0)
  by_cases hq : l' = l ∧ n' = nm
  · obtain ⟨rfl, rfl⟩ := hq
    rw [gI_s, u2_s, if_pos hl]
    rfl
  · rw [gI_q (by omega), u2_n hq]
    exact y1
theorem IV_has {L : GL} {F : GF} {C : GC} {O : GO} {l nm f : Nat} (h : IV L F C O) (hf : f < tf_n F) (hn : tf_nm F f = nm) : IV (hasL L l nm f) F C O := by
  refine ⟨h.1, fun l' n' f' hl' hn' hh => ?_, h.2.2⟩
  have hh : lh_u2 (tl_has L) l nm (some f) l' n' = some f' := hh
  by_cases hq : l' = l ∧ n' = nm
  · obtain ⟨rfl, rfl⟩ := hq
    rw [u2_s] at hh
    cases hh
    exact ⟨hf, hn⟩
  · rw [u2_n hq] at hh
    exact h.2.1 l' n' f' hl' hn' hh
def sF9 (S : lh_S) (k : Nat) : lh_S := pvR (sFile S k (nI k) (nI k) (nI 0) 1 0) 12 0 k (some k)
/-- the class's own, but for the count of its files, which is written last -/
def C9 (S : lh_S) (L : GL) (F : GF) : Prop := CX S ∧ CL S L ∧ CF (pvI S 9 0 1 (nI (tf_n F))) F ∧ CC S aC0 ∧ CO S aO0 ∧ CN S aN0 ∧ CS S
theorem C9_step {S : lh_S} {L : GL} {F : GF} {k : Nat} (h : C9 S L F) (hk : tf_n F = k) (hlt : k < 30) : C9 (sF9 S k) (hasL L 0 k k) (newF F k k 0 1 0) := by
  subst hk
  obtain ⟨hX, hL, hF, hC, hO, hN, hS⟩ := h
  have a := CF_new (x := tf_n F) (y := tf_n F) (z := 0) (u := 1) (w := 0) (Or.inl rfl) hF hlt (nI (tf_n F + 1)) rfl
  have b : CL (sFile S (tf_n F) (nI (tf_n F)) (nI (tf_n F)) (nI 0) 1 0) L := hL
  exact ⟨hX, CL_has (tf_n F) b, a, hC, hO, hN, hS⟩
def z1 : lh_S := pvR (pvN (pvN lh_S0 9 0) 21 30) 9 0 0 (some 0)
def z2 : lh_S := pvR (pvR (pvN (pvN z1 3 0) 16 8) 3 0 0 (some 0)) 9 0 2 (some 0)
def z3 : lh_S := pvR (pvN (pvN (pvN z2 4 0) 6 0) 19 30) 6 0 0 (some 0)
def z4 : lh_S := pvR (pvR (pvN (pvR (pvN (pvR z3 4 0 1 (some 0)) 17 40) 4 0 2 (some 0)) 18 321) 4 0 4 (some 0)) 4 0 0 (some 0)
def z5 : lh_S := pvR (pvN (pvR (pvN (pvR (pvN (pvR z4 9 0 3 (some 0)) 22 60) 9 0 4 (some 0)) 23 20) 9 0 6 (some 0)) 24 40) 9 0 8 (some 0)
theorem C9_0 : C9 (sAdd z5 0 none) (newL aL0 0) aF0 := by
  suffices h : ∀ Z, Z = z5 → C9 (sAdd Z 0 none) (newL aL0 0) aF0 from h z5 rfl
  intro Z hZ
  have hL0 : CL0 z5 aL0 := ⟨Nat.zero_le _, ⟨rfl, rfl, rfl, rfl, rfl⟩, rfl, fun l hl => absurd hl (Nat.not_lt_zero _), fun l hl => absurd hl (Nat.not_lt_zero _), fun l n hl => absurd hl (Nat.not_lt_zero _)⟩
  have hX : CX z5 := ⟨rfl, rfl, rfl, rfl, rfl, rfl, rfl, rfl, rfl, rfl, rfl, rfl, rfl, rfl, rfl, rfl, rfl, rfl, rfl, rfl⟩
  have hF : CF (pvI z5 9 0 1 (nI 0)) aF0 := ⟨Nat.zero_le _, ⟨rfl, rfl⟩, rfl, fun l hl => absurd hl (Nat.not_lt_zero _), fun l hl => absurd hl (Nat.not_lt_zero _), fun l n hl => absurd hl (Nat.not_lt_zero _)⟩
  have hC : CC z5 aC0 := ⟨Nat.zero_le _, rfl, rfl, fun l hl => absurd hl (Nat.not_lt_zero _), fun l hl => absurd hl (Nat.not_lt_zero _)⟩
  have hO : CO z5 aO0 := ⟨Nat.zero_le _, rfl, fun l hl => absurd hl (Nat.not_lt_zero _), Nat.zero_le _, ⟨rfl, rfl⟩, rfl, fun l hl => absurd hl (Nat.not_lt_zero _)⟩
  have hN : CN z5 aN0 := ⟨rfl, rfl, rfl, fun j hj => rfl, rfl⟩
  have hS : CS z5 := ⟨rfl, Nat.zero_le _, fun l hl => absurd hl (Nat.not_lt_zero _), fun j hj hj2 => rfl⟩
  rw [← hZ] at hL0 hX hF hC hO hN hS
  clear hZ
  have hL := CL_add (l := 0) hL0 (by decide) (fun l n hl => absurd hl (Nat.not_lt_zero _))
  rw [show tl_n aL0 = 0 from rfl, if_pos rfl] at hL
  exact ⟨hX, hL, hF, hC, hO, hN, hS⟩
theorem ev_X1_lit {S : lh_S} {k : Nat} (n : Nat) (h1 : gvN S 1 = k) (h11 : gvN S 11 = k) : f_X1_init n (pvN S 1 0) k (nI k) (nI k) (nI k) (nI 0) 1 0 = some ((), pvI (pvI (pvI (pvI (pvI (pvI (pvR (pvN (pvN S 1 0) 11 4) 1 k 6 (some k)) 1 k 0 (nI k)) 1 k 1 (nI k)) 1 k 2 (nI k)) 1 k 3 (nI 0)) 1 k 4 1) 1 k 5 0) := ev_X1_init n h1 h11 (nI k) (nI k) (nI 0) 1 (Or.inl rfl)
theorem ev_X9_init (n : Nat) (hn : 100 ≤ n) : ∃ S8 L F, f_X9_init n (pvN lh_S0 9 0) 0 = some ((), S8) ∧ CX S8 ∧ CL S8 L ∧ CF S8 F ∧ CC S8 aC0 ∧ CO S8 aO0 ∧ CN S8 aN0 ∧ CS S8 ∧ L = hasL (hasL (hasL (hasL (hasL (newL aL0 0) 0 0 0) 0 1 1) 0 2 2) 0 3 3) 0 4 4 ∧ F = newF (newF (newF (newF (newF aF0 0 0 0 1 0) 1 1 0 1 0) 2 2 0 1 0) 3 3 0 1 0) 4 4 0 1 0 := by
  obtain ⟨S0, g0⟩ : ∃ S0, S0 = sAdd z5 0 none := ⟨_, rfl⟩
  have h0 : C9 S0 (newL aL0 0) aF0 := by rw [g0]; exact C9_0
  obtain ⟨S1, g1⟩ : ∃ S1, S1 = sF9 S0 0 := ⟨_, rfl⟩
  have h1 : C9 S1 (hasL (newL aL0 0) 0 0 0) (newF aF0 0 0 0 1 0) := by rw [g1]; exact C9_step h0 rfl (by decide)
  have x0 := ev_X1_lit (S := S0) (k := 0) n h0.2.2.1.2.1.1 h0.2.2.1.2.1.2
  have n0 : gvN S0 1 = 0 := h0.2.2.1.2.1.1
  have r0 := (h0.2.1.2.2.2.2.2.1 0 (by decide)).2.2.2.1
  have l0 := (h0.2.1.2.2.2.2.2.1 0 (by decide)).2.2.2.2.2.2.2.1
  obtain ⟨T0, e0⟩ : ∃ T0, T0 = pvI (pvI (pvI (pvI (pvI (pvI (pvR (pvN (pvN S0 1 0) 11 4) 1 0 6 (some 0)) 1 0 0 (nI 0)) 1 0 1 (nI 0)) 1 0 2 (nI 0)) 1 0 3 (nI 0)) 1 0 4 1) 1 0 5 0 := ⟨_, rfl⟩
  rw [← e0] at x0
  have g1' : S1 = pvR (pvR T0 21 0 0 (some 0)) 12 0 0 (some 0) := by rw [g1, e0]; rfl
  have u0 : gvR T0 9 0 0 = some 0 := by rw [e0]; exact cx_r90 h0.1
  have v0 : gvL T0 21 0 = 30 := by rw [e0]; exact cx_l21 h0.1
  have w0 : gvR (pvR T0 21 0 0 (some 0)) 2 0 3 = some 0 := by rw [e0]; exact r0
  have y0 : gvL (pvR T0 21 0 0 (some 0)) 12 0 = 40 := by rw [e0]; exact l0
  obtain ⟨S2, g2⟩ : ∃ S2, S2 = sF9 S1 1 := ⟨_, rfl⟩
  have h2 : C9 S2 (hasL (hasL (newL aL0 0) 0 0 0) 0 1 1) (newF (newF aF0 0 0 0 1 0) 1 1 0 1 0) := by rw [g2]; exact C9_step h1 rfl (by decide)
  have x1 := ev_X1_lit (S := S1) (k := 1) n h1.2.2.1.2.1.1 h1.2.2.1.2.1.2
  have n1 : gvN S1 1 = 1 := h1.2.2.1.2.1.1
  have r1 := (h1.2.1.2.2.2.2.2.1 0 (by decide)).2.2.2.1
  have l1 := (h1.2.1.2.2.2.2.2.1 0 (by decide)).2.2.2.2.2.2.2.1
  obtain ⟨T1, e1⟩ : ∃ T1, T1 = pvI (pvI (pvI (pvI (pvI (pvI (pvR (pvN (pvN S1 1 0) 11 4) 1 1 6 (some 1)) 1 1 0 (nI 1)) 1 1 1 (nI 1)) 1 1 2 (nI 1)) 1 1 3 (nI 0)) 1 1 4 1) 1 1 5 0 := ⟨_, rfl⟩
  rw [← e1] at x1
  have g2' : S2 = pvR (pvR T1 21 0 1 (some 1)) 12 0 1 (some 1) := by rw [g2, e1]; rfl
  have u1 : gvR T1 9 0 0 = some 0 := by rw [e1]; exact cx_r90 h1.1
  have v1 : gvL T1 21 0 = 30 := by rw [e1]; exact cx_l21 h1.1
  have w1 : gvR (pvR T1 21 0 1 (some 1)) 2 0 3 = some 0 := by rw [e1]; exact r1
  have y1 : gvL (pvR T1 21 0 1 (some 1)) 12 0 = 40 := by rw [e1]; exact l1
  obtain ⟨S3, g3⟩ : ∃ S3, S3 = sF9 S2 2 := ⟨_, rfl⟩
  have h3 : C9 S3 (hasL (hasL (hasL (newL aL0 0) 0 0 0) 0 1 1) 0 2 2) (newF (newF (newF aF0 0 0 0 1 0) 1 1 0 1 0) 2 2 0 1 0) := by rw [g3]; exact C9_step h2 rfl (by decide)
  have x2 := ev_X1_lit (S := S2) (k := 2) n h2.2.2.1.2.1.1 h2.2.2.1.2.1.2
  have n2 : gvN S2 1 = 2 := h2.2.2.1.2.1.1
  have r2 := (h2.2.1.2.2.2.2.2.1 0 (by decide)).2.2.2.1
  have l2 := (h2.2.1.2.2.2.2.2.1 0 (by decide)).2.2.2.2.2.2.2.1
  obtain ⟨T2, e2⟩ : ∃ T2, T2 = pvI (pvI (pvI (pvI (pvI (pvI (pvR (pvN (pvN S2 1 0) 11 4) 1 2 6 (some 2)) 1 2 0 (nI 2)) 1 2 1 (nI 2)) 1 2 2 (nI 2)) 1 2 3 (nI 0)) 1 2 4 1) 1 2 5 0 := ⟨_, rfl⟩
  rw [← e2] at x2
  have g3' : S3 = pvR (pvR T2 21 0 2 (some 2)) 12 0 2 (some 2) := by rw [g3, e2]; rfl
  have u2 : gvR T2 9 0 0 = some 0 := by rw [e2]; exact cx_r90 h2.1
  have v2 : gvL T2 21 0 = 30 := by rw [e2]; exact cx_l21 h2.1
  have w2 : gvR (pvR T2 21 0 2 (some 2)) 2 0 3 = some 0 := by rw [e2]; exact r2
  have y2 : gvL (pvR T2 21 0 2 (some 2)) 12 0 = 40 := by rw [e2]; exact l2
  obtain ⟨S4, g4⟩ : ∃ S4, S4 = sF9 S3 3 := ⟨_, rfl⟩
  have h4 : C9 S4 (hasL (hasL (hasL (hasL (newL aL0 0) 0 0 0) 0 1 1) 0 2 2) 0 3 3) (newF (newF (newF (newF aF0 0 0 0 1 0) 1 1 0 1 0) 2 2 0 1 0) 3 3 0 1 0) := by rw [g4]; exact C9_step h3 rfl (by decide)
  have x3 := ev_X1_lit (S := S3) (k := 3) n h3.2.2.1.2.1.1 h3.2.2.1.2.1.2
  have n3 : gvN S3 1 = 3 := h3.2.2.1.2.1.1
  have r3 := (h3.2.1.2.2.2.2.2.1 0 (by decide)).2.2.2.1
  have l3 := (h3.2.1.2.2.2.2.2.1 0 (by decide)).2.2.2.2.2.2.2.1
  obtain ⟨T3, e3⟩ : ∃ T3, T3 = pvI (pvI (pvI (pvI (pvI (pvI (pvR (pvN (pvN S3 1 0) 11 4) 1 3 6 (some 3)) 1 3 0 (nI 3)) 1 3 1 (nI 3)) 1 3 2 (nI 3)) 1 3 3 (nI 0)) 1 3 4 1) 1 3 5 0 := ⟨_, rfl⟩
  rw [← e3] at x3
  have g4' : S4 = pvR (pvR T3 21 0 3 (some 3)) 12 0 3 (some 3) := by rw [g4, e3]; rfl
  have u3 : gvR T3 9 0 0 = some 0 := by rw [e3]; exact cx_r90 h3.1
  have v3 : gvL T3 21 0 = 30 := by rw [e3]; exact cx_l21 h3.1
  have w3 : gvR (pvR T3 21 0 3 (some 3)) 2 0 3 = some 0 := by rw [e3]; exact r3
  have y3 : gvL (pvR T3 21 0 3 (some 3)) 12 0 = 40 := by rw [e3]; exact l3
  obtain ⟨S5, g5⟩ : ∃ S5, S5 = sF9 S4 4 := ⟨_, rfl⟩
  have h5 : C9 S5 (hasL (hasL (hasL (hasL (hasL (newL aL0 0) 0 0 0) 0 1 1) 0 2 2) 0 3 3) 0 4 4) (newF (newF (newF (newF (newF aF0 0 0 0 1 0) 1 1 0 1 0) 2 2 0 1 0) 3 3 0 1 0) 4 4 0 1 0) := by rw [g5]; exact C9_step h4 rfl (by decide)
  have x4 := ev_X1_lit (S := S4) (k := 4) n h4.2.2.1.2.1.1 h4.2.2.1.2.1.2
  have n4 : gvN S4 1 = 4 := h4.2.2.1.2.1.1
  have r4 := (h4.2.1.2.2.2.2.2.1 0 (by decide)).2.2.2.1
  have l4 := (h4.2.1.2.2.2.2.2.1 0 (by decide)).2.2.2.2.2.2.2.1
  obtain ⟨T4, e4⟩ : ∃ T4, T4 = pvI (pvI (pvI (pvI (pvI (pvI (pvR (pvN (pvN S4 1 0) 11 4) 1 4 6 (some 4)) 1 4 0 (nI 4)) 1 4 1 (nI 4)) 1 4 2 (nI 4)) 1 4 3 (nI 0)) 1 4 4 1) 1 4 5 0 := ⟨_, rfl⟩
  rw [← e4] at x4
  have g5' : S5 = pvR (pvR T4 21 0 4 (some 4)) 12 0 4 (some 4) := by rw [g5, e4]; rfl
  have u4 : gvR T4 9 0 0 = some 0 := by rw [e4]; exact cx_r90 h4.1
  have v4 : gvL T4 21 0 = 30 := by rw [e4]; exact cx_l21 h4.1
  have w4 : gvR (pvR T4 21 0 4 (some 4)) 2 0 3 = some 0 := by rw [e4]; exact r4
  have y4 : gvL (pvR T4 21 0 4 (some 4)) 12 0 = 40 := by rw [e4]; exact l4
  refine ⟨pvI S5 9 0 1 5, (hasL (hasL (hasL (hasL (hasL (newL aL0 0) 0 0 0) 0 1 1) 0 2 2) 0 3 3) 0 4 4), (newF (newF (newF (newF (newF aF0 0 0 0 1 0) 1 1 0 1 0) 2 2 0 1 0) 3 3 0 1 0) 4 4 0 1 0), ?_, h5.1, h5.2.1, h5.2.2.1, h5.2.2.2.1, h5.2.2.2.2.1, h5.2.2.2.2.2.1, h5.2.2.2.2.2.2, rfl, rfl⟩
  have ea : f_X3_add n z5 0 none = some (some 0, S0) := by
    rw [g0]
    exact ev_X3_add n hn none rfl rfl rfl rfl rfl rfl (by decide) rfl rfl
  have e4 : f_X4_init n (pvN z2 4 0) 0 (some 0) = some ((), z4) := rfl
  have e3 : f_X3_init n (pvN z1 3 0) 0 = some ((), pvR (pvN (pvN z1 3 0) 16 8) 3 0 0 (some 0)) := rfl
  unfold f_X9_init
  rw [dc_let_q, show pvR (pvN (pvN lh_S0 9 0) 21 30) 9 0 0 (some (gvN (pvN lh_S0 9 0) 21)) = z1 from rfl, dc_let_q, dc_let_q, show gvN z1 3 = 0 from rfl, e3, dc_bd_s, dc_let_q, show pvR (pvR (pvN (pvN z1 3 0) 16 8) 3 0 0 (some 0)) 9 0 2 (some 0) = z2 from rfl, dc_let_q, show gvN z2 4 = 0 from rfl, show gvR (pvN z2 4 0) 9 0 2 = some 0 from rfl, e4, dc_bd_s, dc_let_q, dc_let_q, dc_let_q, dc_let_q, dc_let_q, dc_let_q, dc_let_q]
  have e5 : pvR (pvN (pvR (pvN (pvR (pvN (pvR z4 9 0 3 (some 0)) 22 60) 9 0 4 (some (gvN (pvR z4 9 0 3 (some 0)) 22))) 23 20) 9 0 6 (some (gvN (pvR (pvN (pvR z4 9 0 3 (some 0)) 22 60) 9 0 4 (some (gvN (pvR z4 9 0 3 (some 0)) 22))) 23))) 24 40) 9 0 8 (some (gvN (pvR (pvN (pvR (pvN (pvR z4 9 0 3 (some 0)) 22 60) 9 0 4 (some (gvN (pvR z4 9 0 3 (some 0)) 22))) 23 20) 9 0 6 (some (gvN (pvR (pvN (pvR z4 9 0 3 (some 0)) 22 60) 9 0 4 (some (gvN (pvR z4 9 0 3 (some 0)) 22))) 23))) 24)) = z5 := rfl
  rw [e5, dc_nn_e (show gvR z5 9 0 2 = some 0 from rfl), ea, dc_bd_s]
  rw [dc_let_q, n0, show f_X1_init n (pvN S0 1 0) 0 (0 : Int32) (0 : Int32) (0 : Int32) (0 : Int32) (1 : Int32) (0 : Int32) = some ((), T0) from x0, dc_bd_s, dc_nn_e u0, show ((0 : Int32)).toNatClampNeg = 0 from rfl, dc_gd_n (by rw [v0]; decide), dc_let_q, dc_nn_s, dc_nn_e w0, dc_gd_n (by rw [y0]; decide), dc_let_q, ← g1']
  rw [dc_let_q, n1, show f_X1_init n (pvN S1 1 0) 1 (1 : Int32) (1 : Int32) (1 : Int32) (0 : Int32) (1 : Int32) (0 : Int32) = some ((), T1) from x1, dc_bd_s, dc_nn_e u1, show ((1 : Int32)).toNatClampNeg = 1 from rfl, dc_gd_n (by rw [v1]; decide), dc_let_q, dc_nn_e w1, dc_gd_n (by rw [y1]; decide), dc_let_q, ← g2']
  rw [dc_let_q, n2, show f_X1_init n (pvN S2 1 0) 2 (2 : Int32) (2 : Int32) (2 : Int32) (0 : Int32) (1 : Int32) (0 : Int32) = some ((), T2) from x2, dc_bd_s, dc_nn_e u2, show ((2 : Int32)).toNatClampNeg = 2 from rfl, dc_gd_n (by rw [v2]; decide), dc_let_q, dc_nn_e w2, dc_gd_n (by rw [y2]; decide), dc_let_q, ← g3']
  rw [dc_let_q, n3, show f_X1_init n (pvN S3 1 0) 3 (3 : Int32) (3 : Int32) (3 : Int32) (0 : Int32) (1 : Int32) (0 : Int32) = some ((), T3) from x3, dc_bd_s, dc_nn_e u3, show ((3 : Int32)).toNatClampNeg = 3 from rfl, dc_gd_n (by rw [v3]; decide), dc_let_q, dc_nn_e w3, dc_gd_n (by rw [y3]; decide), dc_let_q, ← g4']
  rw [dc_let_q, n4, show f_X1_init n (pvN S4 1 0) 4 (4 : Int32) (4 : Int32) (4 : Int32) (0 : Int32) (1 : Int32) (0 : Int32) = some ((), T4) from x4, dc_bd_s, dc_nn_e u4, show ((4 : Int32)).toNatClampNeg = 4 from rfl, dc_gd_n (by rw [v4]; decide), dc_let_q, dc_nn_e w4, dc_gd_n (by rw [y4]; decide), dc_let_q, ← g5']
  rw [dc_let_q]
