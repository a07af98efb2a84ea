/-- what the parent gave is taken alike: stage s of the class, state 2 of the reference -/
theorem LD_take {n : Nat} {L : GL} {F : GF} {O : GO} {dg : Nat → Nat → Bool} {l nm : Nat} {kn : Nat → Nat → Option Nat} {C : GC} {N : GN} {p : Nat} {e c : Nat} {kn1 : Nat → Nat → Option Nat} {C1 : GC} {N1 : GN} {k kr s u : Nat} (hn : 100 ≤ n) (hX : FX L F) (hl : l < tl_n L) (hnm : nm < 40) (hP : PST L F C N nm e c kn1 C1 N1 k) (hk : k + 1 ≤ 50 * p + 50) (hkr : kr + 1 ≤ 50 * p + 50) (hs : s = 1 ∨ s = 2) (e1 : e ≠ 1)
    (goC : ∀ S d st v, d + (p + 1) ≤ 321 → CR S (LL L kn dg) F C O N (d + 1) (va_up st d (l, nm, none, 0)) → ∃ S2, CR S2 (LL L kn1 dg) F C1 O N1 (d + 1) (va_up st d (l, nm, none, s)) ∧ cGo n k S v S2 (ans e c))
    (goR : ∀ S d st, d + (2 * p + 2) ≤ 700 → QR S (LL L kn dg) F C O N (d + 1) (va_up st d (0, l, nm, 0, 0)) → ∃ S2, QR S2 (LL L kn1 dg) F C1 O N1 (d + 1) (va_up st d (0, l, nm, 2, u)) ∧ QA S2 e c ∧ rGo n kr S S2) : LD n L F O dg l nm kn C N p := by
  obtain ⟨hJ, hmo, he, hc, hec, hnl, hlf⟩ := hP
  have hB := KB_of dg hX hJ
  have h40 := hJ.2.2
  by_cases e0 : e = 0
  · have hcc := hec e0
    cases hb : brd (LL L kn1 dg) l nm (some c) with
    | true =>
      refine ⟨3, 0, kn1, C1, N1, k + 1, kr + 1, ⟨hJ, hmo, by omega, by omega, fun q => by omega, by omega, hlf⟩, hk, hkr, fun q => by omega, fun S d st v hdp h => ?_, fun S d st hdq h => ?_⟩
      · obtain ⟨S2, h2, g2⟩ := goC S d st v hdp h
        obtain ⟨S3, h3, g3⟩ := (T12 n hn hs h2 hl hnm he hc (fun _ => e1)).2.1 e0 hcc.1 hb
        exact ⟨S3, h3, cGo_trans g2 g3⟩
      · obtain ⟨S2, h2, a2, g2⟩ := goR S d st hdq h
        obtain ⟨S3, h3, a3, g3⟩ := (R2 n hn h2 (by omega) hB hl hnm he a2).2.2.1 e0 (by omega) hb
        exact ⟨S3, h3, a3 0, rGo_trans g2 g3⟩
    | false =>
      refine ⟨e, c, lh_u2 kn1 l nm (some c), C1, N1, k + 1, kr + 1, ⟨JV_k l hJ hcc.1 hcc.2, hmo, he, hc, hec, by omega, hlf⟩, hk, hkr, fun q => absurd q e1, fun S d st v hdp h => ?_, fun S d st hdq h => ?_⟩
      · obtain ⟨S2, h2, g2⟩ := goC S d st v hdp h
        obtain ⟨S3, h3, g3⟩ := (T12 n hn hs h2 hl hnm he hc (fun _ => e1)).2.2 e0 hcc.1 hb
        exact ⟨S3, h3, cGo_trans g2 g3⟩
      · obtain ⟨S2, h2, a2, g2⟩ := goR S d st hdq h
        obtain ⟨S3, h3, a3, g3⟩ := (R2 n hn h2 (by omega) hB hl hnm he a2).2.2.2 e0 (by omega) hb
        rw [e0]
        exact ⟨S3, h3, a3, rGo_trans g2 g3⟩
  · refine ⟨e, c, kn1, C1, N1, k + 1, kr + 1, ⟨hJ, hmo, he, hc, hec, by omega, hlf⟩, hk, hkr, fun q => absurd q e1, fun S d st v hdp h => ?_, fun S d st hdq h => ?_⟩
    · obtain ⟨S2, h2, g2⟩ := goC S d st v hdp h
      obtain ⟨S3, h3, g3⟩ := (T12 n hn hs h2 hl hnm he hc (fun _ => e1)).1 e0
      exact ⟨S3, h3, cGo_trans g2 g3⟩
    · obtain ⟨S2, h2, a2, g2⟩ := goR S d st hdq h
      obtain ⟨S3, h3, a3, g3⟩ := (R2 n hn h2 (by omega) hB hl hnm he a2).2.1 e0 e1
      exact ⟨S3, h3, a3 c, rGo_trans g2 g3⟩
/-- its own file is defined alike -/
theorem LD_self {n : Nat} {L : GL} {F : GF} {O : GO} {dg : Nat → Nat → Bool} {l nm f : Nat} {kn : Nat → Nat → Option Nat} {C : GC} {N : GN} {p : Nat} {kn1 : Nat → Nat → Option Nat} {C1 : GC} {N1 : GN} {k kr u : Nat} (hX : FX L F) (hl : l < tl_n L) (hnm : nm < 40) (hf : tf_nm F f = nm) (hmo : tc_n C ≤ tc_n C1) (hnl : tn_ld N1 ≤ tn_ld N + k) (hlf : tn_lf N1 = tn_lf N) (hk : k ≤ 45) (hkr : kr ≤ 45) (hD : DF n L F O dg l f kn1 C1 N1 p)
    (goC : ∀ S d st v, d + (p + 1) ≤ 321 → CR S (LL L kn dg) F C O N (d + 1) (va_up st d (l, nm, none, 0)) → ∃ S2, CR S2 (LL L kn1 dg) F C1 O N1 (d + 1) (va_up st d (l, nm, some f, 5)) ∧ cGo n k S v S2 (-1))
    (goR : ∀ S d st, d + (2 * p + 2) ≤ 700 → QR S (LL L kn dg) F C O N (d + 1) (va_up st d (0, l, nm, 0, 0)) → ∃ S2, QR S2 (LL L kn1 dg) F C1 O N1 (d + 2) (va_up (va_up st d (0, l, nm, 3, u)) (d + 1) (1, l, f, 0, 0)) ∧ rGo n kr S S2) : LD n L F O dg l nm kn C N p := by
  obtain ⟨e, c, kn2, C2, N2, k2, kr2, ⟨hJ, hmo2, he, hc, hec, hnl2, hlf2⟩, hk2, hkr2, e1, hkn, hC, hR⟩ := hD
  rw [hf] at hec hkn hC
  refine ⟨e, c, kn2, C2, N2, k + k2, kr + kr2 + 1, ⟨hJ, by omega, he, hc, hec, by omega, by rw [hlf2, hlf]⟩, by omega, by omega, fun q => absurd q e1, fun S d st v hdp h => ?_, fun S d st hdq h => ?_⟩
  · obtain ⟨S2, h2, g2⟩ := goC S d st v hdp h
    obtain ⟨S3, h3, g3⟩ := hC S2 d st (-1) hdp h2
    exact ⟨S3, h3, cGo_trans g2 g3⟩
  · obtain ⟨S2, h2, g2⟩ := goR S d st hdq h
    obtain ⟨S3, h3, a3, g3⟩ := hR S2 (d + 1) _ (by omega) h2
    have h8 := hX.2.1
    by_cases e0 : e = 0
    · obtain ⟨S4, h4, a4, g4⟩ := (R3 n h3 (by omega) h8 hl hnm he a3).2 e0
      have hL2 : kS (LL L kn2 dg) l nm c = LL L kn2 dg := by
        show LL L (lh_u2 kn2 l nm (some c)) dg = LL L kn2 dg
        rw [u2_same (hkn e0)]
      rw [hL2] at h4
      rw [e0]
      exact ⟨S4, h4, a4, rGo_trans (rGo_trans g2 g3) g4⟩
    · obtain ⟨S4, h4, a4, g4⟩ := (R3 n h3 (by omega) h8 hl hnm he a3).1 e0
      exact ⟨S4, h4, a4 c, rGo_trans (rGo_trans g2 g3) g4⟩
theorem LD_all {n : Nat} {L : GL} {F : GF} (O : GO) (hn : 100 ≤ n) (hX : FX L F) : ∀ (q : Nat) (dg : Nat → Nat → Bool) (l nm : Nat) (kn : Nat → Nat → Option Nat) (C : GC) (N : GN), PP dg l < q → l < tl_n L → nm < 40 → JV L F C kn → tn_ld N + 50 * PP dg l + 50 ≤ 1000000000 → LD n L F O dg l nm kn C N (PP dg l) := by
  intro q
  induction q with
  | zero => intro dg l nm kn C N h; omega
  | succ q ih =>
    intro dg l nm kn C N hq hl hnm hJ hN
    have h8 := hX.2.1
    have h30 := hX.2.2.2.2.2.2
    have h40 := hJ.2.2
    have hB := KB_of dg hX hJ
    have hN1 : tn_ld (nt N l nm) = tn_ld N + 1 := rfl
    have hN2 : tn_lf (nt N l nm) = tn_lf N := rfl
    have hb9 : tn_ld N ≤ 1000000000 := by omega
    have hhas : ∀ f, tl_has (LL L kn dg) l nm = some f → f < tf_n F := fun f hf => (hX.2.2.2.1 l nm f hl hnm hf).1
    cases hk : kn l nm with
    | some c =>
      have hcc := hJ.1 l nm c hl hnm hk
      refine ⟨0, c, kn, C, nt N l nm, 1, 1, ⟨hJ, by omega, by omega, by omega, fun _ => hcc, by omega, hN2⟩, by omega, by omega, fun z => by omega, fun S d st v hdp h => ?_, fun S d st hdq h => ?_⟩
      · exact (T0 n h hb9 hl hnm v).1 c hk hcc.1
      · exact (R0 n h (by omega) hB hb9 hl hnm).1 c hk
    | none =>
      cases hdg : dg l nm with
      | true =>
        refine ⟨6, 0, kn, C, nt N l nm, 1, 1, ⟨hJ, by omega, by omega, by omega, fun z => by omega, by omega, hN2⟩, by omega, by omega, fun z => by omega, fun S d st v hdp h => ?_, fun S d st hdq h => ?_⟩
        · exact (T0 n h hb9 hl hnm v).2.1 hk hdg
        · obtain ⟨S', h1, a1, g1⟩ := (R0 n h (by omega) hB hb9 hl hnm).2.1 hk hdg
          exact ⟨S', h1, a1 0, g1⟩
      | false =>
        have hpos := PP_pos hnm hdg
        have r0 : ∀ S d st, d + (2 * PP dg l + 2) ≤ 700 → QR S (LL L kn dg) F C O N (d + 1) (va_up st d (0, l, nm, 0, 0)) → ∃ S1, QR S1 (LL L kn dg) F C O (nt N l nm) (d + 1) (va_up st d (0, l, nm, 1, 0)) ∧ rGo n 1 S S1 := fun S d st hdq h => (R0 n h (by omega) hB hb9 hl hnm).2.2 hk hdg
        have dfx : ∀ (f : Nat) (kn' : Nat → Nat → Option Nat) (C' : GC) (N' : GN), JV L F C' kn' → tl_has L l nm = some f → tn_ld N' + 50 * PP dg l ≤ 1000000000 → DF n L F O dg l f kn' C' N' (PP dg l) := by
          intro f kn' C' N' hJ' hf hN'
          obtain ⟨hf1, hf2⟩ := hX.2.2.2.1 l nm f hl hnm hf
          refine DF_of hn hX hJ' hl hf1 (fun _ => hpos) (fun hd => ?_)
          have hup : PP (lh_u2 dg l (tf_nm F f) true) l + 1 = PP dg l := cp_up hd (by omega) (l + 1) (by omega)
          have := ih (lh_u2 dg l (tf_nm F f) true) l (tf_ab F f) kn' C' N' (by omega) hl (hX.2.2.2.2.2.1 f hf1).2.2 hJ' (by omega)
          rw [show PP (lh_u2 dg l (tf_nm F f) true) l = PP dg l - 1 by omega] at this
          exact this
        by_cases hz : l = 0 ∨ tl_bnd L l ≤ nI nm
        · -- itself first
          have c0 : ∀ S d st v, d + (PP dg l + 1) ≤ 321 → CR S (LL L kn dg) F C O N (d + 1) (va_up st d (l, nm, none, 0)) → ∃ S1, CR S1 (LL L kn dg) F C O (nt N l nm) (d + 1) (va_up st d (l, nm, none, 3)) ∧ cGo n 1 S v S1 (-1) := fun S d st v hdp h => (T0 n h hb9 hl hnm v).2.2.2 hk hdg hz
          have hw : (l = 0 ∧ 0 = 0) ∨ (l ≠ 0 ∧ tl_bnd L l ≤ nI nm ∧ 0 = 0) ∨ (l ≠ 0 ∧ ¬ tl_bnd L l ≤ nI nm ∧ 0 = 1) := by
            by_cases hl0 : l = 0
            · exact Or.inl ⟨hl0, rfl⟩
            · rcases hz with hz | hz
              · exact absurd hz hl0
              · exact Or.inr (Or.inl ⟨hl0, hz, rfl⟩)
          cases hf : tl_has L l nm with
          | some f =>
            obtain ⟨hf1, hf2⟩ := hX.2.2.2.1 l nm f hl hnm hf
            refine LD_self (k := 1 + 1) (kr := 1 + 1) (u := 0) hX hl hnm hf2 (Nat.le_refl _) (by omega) hN2 (by omega) (by omega) (dfx f kn C (nt N l nm) hJ hf (by omega)) (fun S d st v hdp h => ?_) (fun S d st hdq h => ?_)
            · obtain ⟨S1, h1, g1⟩ := c0 S d st v hdp h
              obtain ⟨S2, h2, g2⟩ := (T34 n h1 hl hnm (Or.inl ⟨rfl, Or.inl (fun z => by rw [show tl_has (LL L kn dg) l nm = some f from hf] at z; cases z)⟩) (-1)).2 f hf
              exact ⟨S2, h2, cGo_trans g1 g2⟩
            · obtain ⟨S1, h1, g1⟩ := r0 S d st hdq h
              obtain ⟨S2, x2, h2⟩ := (ev_tS n h1 h8 h30 hl hnm hhas).2 f hf (by omega)
              exact ⟨S2, h2, rGo_trans g1 (rGo_load h1.1 h1.2.2.2.2.2.2 (by omega) (((R1 n h1 (by omega) h8 hl hnm).1 hw).trans x2))⟩
          | none =>
            have rn : ∀ S d st, d + (2 * PP dg l + 2) ≤ 700 → QR S (LL L kn dg) F C O N (d + 1) (va_up st d (0, l, nm, 0, 0)) → ∃ S2, QR S2 (LL L kn dg) F C O (nt N l nm) (d + 1) (va_up st d (0, l, nm, 1, 1)) ∧ rGo n (1 + 1) S S2 := by
              intro S d st hdq h
              obtain ⟨S1, h1, g1⟩ := r0 S d st hdq h
              obtain ⟨S2, x2, h2⟩ := (ev_tS n h1 h8 h30 hl hnm hhas).1 hf (by omega)
              exact ⟨S2, h2, rGo_trans g1 (rGo_load h1.1 h1.2.2.2.2.2.2 (by omega) (((R1 n h1 (by omega) h8 hl hnm).1 hw).trans x2))⟩
            by_cases hl0 : l = 0
            · refine ⟨1, 0, kn, C, nt N l nm, 1 + 1, 1 + 1 + 1, ⟨hJ, by omega, by omega, by omega, fun z => by omega, by omega, hN2⟩, by omega, by omega, fun z => by omega, fun S d st v hdp h => ?_, fun S d st hdq h => ?_⟩
              · obtain ⟨S1, h1, g1⟩ := c0 S d st v hdp h
                obtain ⟨S2, h2, g2⟩ := (T34 n h1 hl hnm (Or.inl ⟨rfl, Or.inr hl0⟩) (-1)).1 hf
                exact ⟨S2, h2, cGo_trans g1 g2⟩
              · obtain ⟨S2, h2, g2⟩ := rn S d st hdq h
                obtain ⟨S3, x3, h3, a3⟩ := (R1 n h2 (by omega) h8 hl hnm).2.2 (Or.inl ⟨hl0, rfl⟩)
                exact ⟨S3, h3, a3 0, rGo_trans g2 (rGo_load h2.1 h2.2.2.2.2.2.2 (by omega) x3)⟩
            · have hbd : tl_bnd L l ≤ nI nm := by
                rcases hz with hz | hz
                · exact absurd hz hl0
                · exact hz
              have hpl := hX.2.2.1 l (by omega) hl
              have hPP := PP_par hpl hnm hdg
              obtain ⟨e, c, kn1, C1, N1, k, kr, hP, hk1, hkr1, hab, hC, hR⟩ := ih dg (tl_par L l) nm kn C (nt N l nm) (by omega) (by omega) hnm hJ (by omega)
              have goC : ∀ S d st v, d + (PP dg l + 1) ≤ 321 → CR S (LL L kn dg) F C O N (d + 1) (va_up st d (l, nm, none, 0)) → ∃ S2, CR S2 (LL L kn1 dg) F C1 O N1 (d + 1) (va_up st d (l, nm, none, 2)) ∧ cGo n (1 + 1 + k) S v S2 (ans e c) := by
                intro S d st v hdp h
                obtain ⟨S1, h1, g1⟩ := c0 S d st v hdp h
                obtain ⟨S2, h2, g2⟩ := T3p n h1 hl hnm hf hl0 (by omega) (-1)
                obtain ⟨S3, h3, g3⟩ := hC S2 (d + 1) _ (-1) (by omega) h2
                exact ⟨S3, h3, cGo_trans (cGo_trans g1 g2) g3⟩
              have goR : ∀ S d st, d + (2 * PP dg l + 2) ≤ 700 → QR S (LL L kn dg) F C O N (d + 1) (va_up st d (0, l, nm, 0, 0)) → ∃ S2, QR S2 (LL L kn1 dg) F C1 O N1 (d + 1) (va_up st d (0, l, nm, 2, 1)) ∧ QA S2 e c ∧ rGo n (1 + 1 + 1 + kr) S S2 := by
                intro S d st hdq h
                obtain ⟨S1, h1, g1⟩ := rn S d st hdq h
                obtain ⟨S2, x2, h2⟩ := ev_tP n h1 h8 hl hl0 (by omega)
                have g2 := rGo_load h1.1 h1.2.2.2.2.2.2 (by omega) (((R1 n h1 (by omega) h8 hl hnm).2.1 (Or.inl ⟨hl0, hbd, rfl⟩)).trans x2)
                obtain ⟨S3, h3, a3, g3⟩ := hR S2 (d + 1) _ (by omega) h2
                exact ⟨S3, h3, a3, rGo_trans (rGo_trans g1 g2) g3⟩
              obtain ⟨hJ1, hmo, he, hc, hec, hnl, hlf⟩ := hP
              by_cases e1 : e = 1
              · have hab1 := hab e1
                have hB1 := KB_of dg hX hJ1
                refine ⟨1, c, kn1, C1, N1, 1 + 1 + k + 1, 1 + 1 + 1 + kr + 1 + 1, ⟨hJ1, hmo, by omega, hc, fun z => by omega, by omega, by rw [hlf, hN2]⟩, by omega, by omega, fun _ => by omega, fun S d st v hdp h => ?_, fun S d st hdq h => ?_⟩
                · obtain ⟨S2, h2, g2⟩ := goC S d st v hdp h
                  obtain ⟨S3, h3, g3⟩ := (T12 n hn (Or.inr rfl) h2 hl hnm he hc (fun z => by omega)).1 (by omega)
                  rw [e1] at g2 g3
                  exact ⟨S3, h3, cGo_trans g2 g3⟩
                · obtain ⟨S2, h2, a2, g2⟩ := goR S d st hdq h
                  obtain ⟨S3, h3, g3⟩ := (R2 n hn h2 (by omega) hB1 hl hnm he a2).1 e1
                  obtain ⟨S4, x4, h4, a4⟩ := (R1 n h3 (by omega) h8 hl hnm).2.2 (Or.inr ⟨hl0, rfl⟩)
                  exact ⟨S4, h4, a4 c, rGo_trans (rGo_trans g2 g3) (rGo_load h3.1 h3.2.2.2.2.2.2 (by omega) x4)⟩
              · exact LD_take (s := 2) (u := 1) hn hX hl hnm ⟨hJ1, hmo, he, hc, hec, by omega, by rw [hlf, hN2]⟩ (by omega) (by omega) (Or.inr rfl) e1 goC goR
        · -- the parent first
          have hl0 : l ≠ 0 := fun z => hz (Or.inl z)
          have hbd : ¬ tl_bnd L l ≤ nI nm := fun z => hz (Or.inr z)
          have hpl := hX.2.2.1 l (by omega) hl
          have hPP := PP_par hpl hnm hdg
          obtain ⟨e, c, kn1, C1, N1, k, kr, hP, hk1, hkr1, hab, hC, hR⟩ := ih dg (tl_par L l) nm kn C (nt N l nm) (by omega) (by omega) hnm hJ (by omega)
          have goC : ∀ S d st v, d + (PP dg l + 1) ≤ 321 → CR S (LL L kn dg) F C O N (d + 1) (va_up st d (l, nm, none, 0)) → ∃ S2, CR S2 (LL L kn1 dg) F C1 O N1 (d + 1) (va_up st d (l, nm, none, 1)) ∧ cGo n (1 + k) S v S2 (ans e c) := by
            intro S d st v hdp h
            obtain ⟨S1, h1, g1⟩ := (T0 n h hb9 hl hnm v).2.2.1 hk hdg hl0 hbd (by omega)
            obtain ⟨S2, h2, g2⟩ := hC S1 (d + 1) _ (-1) (by omega) h1
            exact ⟨S2, h2, cGo_trans g1 g2⟩
          have goR : ∀ S d st, d + (2 * PP dg l + 2) ≤ 700 → QR S (LL L kn dg) F C O N (d + 1) (va_up st d (0, l, nm, 0, 0)) → ∃ S2, QR S2 (LL L kn1 dg) F C1 O N1 (d + 1) (va_up st d (0, l, nm, 2, 0)) ∧ QA S2 e c ∧ rGo n (1 + 1 + kr) S S2 := by
            intro S d st hdq h
            obtain ⟨S1, h1, g1⟩ := r0 S d st hdq h
            obtain ⟨S2, x2, h2⟩ := ev_tP n h1 h8 hl hl0 (by omega)
            have g2 := rGo_load h1.1 h1.2.2.2.2.2.2 (by omega) (((R1 n h1 (by omega) h8 hl hnm).2.1 (Or.inr ⟨hl0, hbd, rfl⟩)).trans x2)
            obtain ⟨S3, h3, a3, g3⟩ := hR S2 (d + 1) _ (by omega) h2
            exact ⟨S3, h3, a3, rGo_trans (rGo_trans g1 g2) g3⟩
          obtain ⟨hJ1, hmo, he, hc, hec, hnl, hlf⟩ := hP
          by_cases e1 : e = 1
          · have hab1 := hab e1
            have hB1 := KB_of dg hX hJ1
            have hw : (l = 0 ∧ 0 + 1 = 0) ∨ (l ≠ 0 ∧ tl_bnd L l ≤ nI nm ∧ 0 + 1 = 0) ∨ (l ≠ 0 ∧ ¬ tl_bnd L l ≤ nI nm ∧ 0 + 1 = 1) := Or.inr (Or.inr ⟨hl0, hbd, rfl⟩)
            have goC2 : ∀ S d st v, d + (PP dg l + 1) ≤ 321 → CR S (LL L kn dg) F C O N (d + 1) (va_up st d (l, nm, none, 0)) → ∃ S2, CR S2 (LL L kn1 dg) F C1 O N1 (d + 1) (va_up st d (l, nm, none, 4)) ∧ cGo n (1 + k + 1) S v S2 (-1) := by
              intro S d st v hdp h
              obtain ⟨S2, h2, g2⟩ := goC S d st v hdp h
              obtain ⟨S3, h3, g3⟩ := T1a n h2
              rw [show ans e c = -11 from (ans_11 he hc).mpr e1] at g2
              exact ⟨S3, h3, cGo_trans g2 g3⟩
            have goR2 : ∀ S d st, d + (2 * PP dg l + 2) ≤ 700 → QR S (LL L kn dg) F C O N (d + 1) (va_up st d (0, l, nm, 0, 0)) → ∃ S2, QR S2 (LL L kn1 dg) F C1 O N1 (d + 1) (va_up st d (0, l, nm, 1, 0 + 1)) ∧ rGo n (1 + 1 + kr + 1) S S2 := by
              intro S d st hdq h
              obtain ⟨S2, h2, a2, g2⟩ := goR S d st hdq h
              obtain ⟨S3, h3, g3⟩ := (R2 n hn h2 (by omega) hB1 hl hnm he a2).1 e1
              exact ⟨S3, h3, rGo_trans g2 g3⟩
            cases hf : tl_has L l nm with
            | some f =>
              obtain ⟨hf1, hf2⟩ := hX.2.2.2.1 l nm f hl hnm hf
              refine LD_self (k := 1 + k + 1 + 1) (kr := 1 + 1 + kr + 1 + 1) (u := 0 + 1) hX hl hnm hf2 hmo (by omega) (by rw [hlf, hN2]) (by omega) (by omega) (dfx f kn1 C1 N1 hJ1 hf (by omega)) (fun S d st v hdp h => ?_) (fun S d st hdq h => ?_)
              · obtain ⟨S1, h1, g1⟩ := goC2 S d st v hdp h
                obtain ⟨S2, h2, g2⟩ := (T34 n h1 hl hnm (Or.inr rfl) (-1)).2 f hf
                exact ⟨S2, h2, cGo_trans g1 g2⟩
              · obtain ⟨S1, h1, g1⟩ := goR2 S d st hdq h
                obtain ⟨S2, x2, h2⟩ := (ev_tS n h1 h8 h30 hl hnm hhas).2 f hf (by omega)
                exact ⟨S2, h2, rGo_trans g1 (rGo_load h1.1 h1.2.2.2.2.2.2 (by omega) (((R1 n h1 (by omega) h8 hl hnm).1 hw).trans x2))⟩
            | none =>
              refine ⟨1, 0, kn1, C1, N1, 1 + k + 1 + 1, 1 + 1 + kr + 1 + 1 + 1, ⟨hJ1, hmo, by omega, by omega, fun z => by omega, by omega, by rw [hlf, hN2]⟩, by omega, by omega, fun _ => by omega, fun S d st v hdp h => ?_, fun S d st hdq h => ?_⟩
              · obtain ⟨S1, h1, g1⟩ := goC2 S d st v hdp h
                obtain ⟨S2, h2, g2⟩ := (T34 n h1 hl hnm (Or.inr rfl) (-1)).1 hf
                exact ⟨S2, h2, cGo_trans g1 g2⟩
              · obtain ⟨S1, h1, g1⟩ := goR2 S d st hdq h
                obtain ⟨S2, x2, h2⟩ := (ev_tS n h1 h8 h30 hl hnm hhas).1 hf (by omega)
                have g2 := rGo_load h1.1 h1.2.2.2.2.2.2 (by omega) (((R1 n h1 (by omega) h8 hl hnm).1 hw).trans x2)
                obtain ⟨S3, x3, h3, a3⟩ := (R1 n h2 (by omega) h8 hl hnm).2.2 (Or.inr ⟨hl0, rfl⟩)
                exact ⟨S3, h3, a3 0, rGo_trans (rGo_trans g1 g2) (rGo_load h2.1 h2.2.2.2.2.2.2 (by omega) x3)⟩
          · exact LD_take (s := 1) (u := 0) hn hX hl hnm ⟨hJ1, hmo, he, hc, hec, by omega, by rw [hlf, hN2]⟩ (by omega) (by omega) (Or.inl rfl) e1 goC goR
