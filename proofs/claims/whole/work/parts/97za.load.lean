/-! LOADING: how many pairs of loader and name are not being defined -/
def cn (d : Nat → Bool) : Nat → Nat
  | 0 => 0
  | k + 1 => cn d k + (if d k = true then 0 else 1)
def cp (dg : Nat → Nat → Bool) : Nat → Nat
  | 0 => 0
  | l + 1 => cp dg l + cn (dg l) 40
theorem cn_le (d : Nat → Bool) : ∀ k, cn d k ≤ k := by
  intro k
  induction k with
  | zero => exact Nat.le_refl _
  | succ k ih =>
    rw [cn]
    split
    all_goals omega
theorem cn_pos {d : Nat → Bool} {j : Nat} (h : d j = false) : ∀ k, j < k → 1 ≤ cn d k := by
  intro k
  induction k with
  | zero => intro h; omega
  | succ k ih =>
    intro hj
    rw [cn]
    by_cases hjk : j = k
    · subst hjk
      rw [if_neg (by rw [h]; decide)]
      omega
    · have := ih (by omega)
      omega
theorem cn_congr {d d' : Nat → Bool} : ∀ k, (∀ j, j < k → d j = d' j) → cn d k = cn d' k := by
  intro k
  induction k with
  | zero => intro h; rfl
  | succ k ih =>
    intro h
    rw [cn, cn, ih (fun j hj => h j (by omega)), h k (by omega)]
theorem cn_up {d d' : Nat → Bool} {j : Nat} (h : d j = false) (h' : d' j = true) (hq : ∀ i, i ≠ j → d' i = d i) : ∀ k, j < k → cn d' k + 1 = cn d k := by
  intro k
  induction k with
  | zero => intro h; omega
  | succ k ih =>
    intro hj
    rw [cn, cn]
    by_cases hjk : j = k
    · subst hjk
      rw [h, h', if_pos rfl, if_neg (by decide), cn_congr j (fun i hi => hq i (by omega))]
    · have := ih (by omega)
      rw [hq k (by omega)]
      omega
theorem cp_mono (dg : Nat → Nat → Bool) {a : Nat} : ∀ b, a ≤ b → cp dg a ≤ cp dg b := by
  intro b
  induction b with
  | zero => intro h; rw [show a = 0 by omega]; exact Nat.le_refl _
  | succ b ih =>
    intro h
    by_cases hab : a = b + 1
    · subst hab
      exact Nat.le_refl _
    · have := ih (by omega)
      rw [cp]
      omega
theorem cp_le (dg : Nat → Nat → Bool) : ∀ b, cp dg b ≤ 40 * b := by
  intro b
  induction b with
  | zero => exact Nat.le_refl _
  | succ b ih =>
    have := cn_le (dg b) 40
    rw [cp]
    omega
theorem cp_congr {dg dg' : Nat → Nat → Bool} : ∀ b, (∀ l, l < b → ∀ n, dg l n = dg' l n) → cp dg b = cp dg' b := by
  intro b
  induction b with
  | zero => intro h; rfl
  | succ b ih =>
    intro h
    rw [cp, cp, ih (fun l hl => h l (by omega)), cn_congr 40 (fun j _ => h b (by omega) j)]
theorem cp_up {dg : Nat → Nat → Bool} {l nm : Nat} (h : dg l nm = false) (hnm : nm < 40) : ∀ b, l < b → cp (lh_u2 dg l nm true) b + 1 = cp dg b := by
  intro b
  induction b with
  | zero => intro h; omega
  | succ b ih =>
    intro hb
    rw [cp, cp]
    by_cases hlb : l = b
    · subst hlb
      rw [cp_congr (dg := lh_u2 dg l nm true) (dg' := dg) l (fun i hi n => u2_n (fun q => by omega))]
      have := cn_up (d := dg l) (d' := lh_u2 dg l nm true l) (j := nm) h u2_s (fun i hi => u2_n (fun q => hi q.2)) 40 hnm
      omega
    · have := ih (by omega)
      rw [cn_congr (d := lh_u2 dg l nm true b) (d' := dg b) 40 (fun j _ => u2_n (fun q => by omega))]
      omega
def PP (dg : Nat → Nat → Bool) (l : Nat) : Nat := cp dg (l + 1)
theorem PP_par {dg : Nat → Nat → Bool} {l q nm : Nat} (hq : q < l) (hnm : nm < 40) (h : dg l nm = false) : PP dg q + 1 ≤ PP dg l := by
  unfold PP
  have h1 := cp_mono dg (a := q + 1) l (by omega)
  have h2 := cn_pos h 40 hnm
  have h3 : cp dg (l + 1) = cp dg l + cn (dg l) 40 := rfl
  omega
theorem PP_pos {dg : Nat → Nat → Bool} {l nm : Nat} (hnm : nm < 40) (h : dg l nm = false) : 1 ≤ PP dg l := by
  unfold PP
  have h2 := cn_pos h 40 hnm
  have h3 : cp dg (l + 1) = cp dg l + cn (dg l) 40 := rfl
  omega
/-! the state while it loads -/
def LL (L : GL) (kn : Nat → Nat → Option Nat) (dg : Nat → Nat → Bool) : GL := (tl_n L, tl_par L, tl_bnd L, tl_has L, kn, dg, tl_grp L)
def FX (L : GL) (F : GF) : Prop := 1 ≤ tl_n L ∧ tl_n L ≤ 8 ∧ (∀ l, 0 < l → l < tl_n L → tl_par L l < l) ∧ (∀ l n f, l < tl_n L → n < 40 → tl_has L l n = some f → f < tf_n F ∧ tf_nm F f = n) ∧ (∀ l n, l < tl_n L → n < 40 → tl_grp L l n < tl_n L) ∧ (∀ f, f < tf_n F → tf_nm F f < 40 ∧ tf_in F f < 40 ∧ tf_ab F f < 40) ∧ tf_n F ≤ 30
def JV (L : GL) (F : GF) (C : GC) (kn : Nat → Nat → Option Nat) : Prop := (∀ l n c, l < tl_n L → n < 40 → kn l n = some c → c < tc_n C ∧ tf_nm F (tc_fl C c) = n) ∧ (∀ c, c < tc_n C → tc_ld C c < tl_n L ∧ tc_fl C c < tf_n F ∧ tc_st C c ≤ 2 ∧ ∀ a, tc_ab C c = some a → a < c) ∧ tc_n C ≤ 40
theorem KB_of {L : GL} {F : GF} {C : GC} {kn : Nat → Nat → Option Nat} (dg : Nat → Nat → Bool) (hX : FX L F) (hJ : JV L F C kn) : KB (LL L kn dg) C := ⟨fun l n c hl hn hc => (hJ.1 l n c hl hn hc).1, hX.2.2.2.2.1, hJ.2.2, hX.2.1⟩
theorem JV_k {L : GL} {F : GF} {C : GC} {kn : Nat → Nat → Option Nat} {c nm : Nat} (l : Nat) (hJ : JV L F C kn) (hc : c < tc_n C) (hnm : tf_nm F (tc_fl C c) = nm) : JV L F C (lh_u2 kn l nm (some c)) := by
  refine ⟨fun l' n' c' hl hn h => ?_, hJ.2⟩
  by_cases hq : l' = l ∧ n' = nm
  · obtain ⟨rfl, rfl⟩ := hq
    rw [u2_s] at h
    cases h
    exact ⟨hc, hnm⟩
  · rw [u2_n hq] at h
    exact hJ.1 l' n' c' hl hn h
theorem JV_new {L : GL} {F : GF} {C : GC} {kn : Nat → Nat → Option Nat} {l f nm : Nat} {ab : Option Nat} (hJ : JV L F C kn) (h40 : tc_n C < 40) (hl : l < tl_n L) (hf : f < tf_n F) (hnm : tf_nm F f = nm) (hab : ∀ a, ab = some a → a < tc_n C) : JV L F (cS C l f ab) (lh_u2 kn l nm (some (tc_n C))) := by
  have en : tc_n (cS C l f ab) = tc_n C + 1 := rfl
  have e1 : ∀ c, tc_ld (cS C l f ab) c = va_up (tc_ld C) (tc_n C) l c := fun c => rfl
  have e2 : ∀ c, tc_fl (cS C l f ab) c = va_up (tc_fl C) (tc_n C) f c := fun c => rfl
  have e3 : ∀ c, tc_ab (cS C l f ab) c = va_up (tc_ab C) (tc_n C) ab c := fun c => rfl
  have e4 : ∀ c, tc_st (cS C l f ab) c = va_up (tc_st C) (tc_n C) 0 c := fun c => rfl
  refine ⟨fun l' n' c' hl' hn h => ?_, fun c hc => ?_, by rw [en]; omega⟩
  · rw [en, e2]
    by_cases hq : l' = l ∧ n' = nm
    · obtain ⟨rfl, rfl⟩ := hq
      rw [u2_s] at h
      cases h
      rw [va_s]
      exact ⟨by omega, hnm⟩
    · rw [u2_n hq] at h
      have := hJ.1 l' n' c' hl' hn h
      rw [va_n (by omega)]
      exact ⟨by omega, this.2⟩
  · rw [en] at hc
    rw [e1, e2, e3, e4]
    by_cases hck : c = tc_n C
    · subst hck
      rw [va_s, va_s, va_s, va_s]
      exact ⟨hl, hf, by omega, hab⟩
    · rw [va_n hck, va_n hck, va_n hck, va_n hck]
      exact hJ.2.1 c (by omega)
theorem u2_back {dg : Nat → Nat → Bool} {l nm : Nat} (h : dg l nm = false) : lh_u2 (lh_u2 dg l nm true) l nm false = dg := by
  funext x y
  by_cases hq : x = l ∧ y = nm
  · obtain ⟨rfl, rfl⟩ := hq
    rw [u2_s, h]
  · rw [u2_n hq, u2_n hq]
theorem u2_same {kn : Nat → Nat → Option Nat} {l nm c : Nat} (h : kn l nm = some c) : lh_u2 kn l nm (some c) = kn := by
  funext x y
  by_cases hq : x = l ∧ y = nm
  · obtain ⟨rfl, rfl⟩ := hq
    rw [u2_s, h]
  · rw [u2_n hq]
def PST (L : GL) (F : GF) (C : GC) (N : GN) (nm e c : Nat) (kn' : Nat → Nat → Option Nat) (C' : GC) (N' : GN) (k : Nat) : Prop := JV L F C' kn' ∧ tc_n C ≤ tc_n C' ∧ e ≤ 100 ∧ c < 100 ∧ (e = 0 → c < tc_n C' ∧ tf_nm F (tc_fl C' c) = nm) ∧ tn_ld N' ≤ tn_ld N + k ∧ tn_lf N' = tn_lf N
def CRUN (n : Nat) (L : GL) (F : GF) (O : GO) (dg : Nat → Nat → Bool) (kn : Nat → Nat → Option Nat) (C : GC) (N : GN) (dp : Nat) (fr : FR) (kn' : Nat → Nat → Option Nat) (C' : GC) (N' : GN) (k : Nat) (v' : Int32) : Prop := ∀ S d st v, d + dp ≤ 321 → CR S (LL L kn dg) F C O N (d + 1) (va_up st d fr) → ∃ S', CR S' (LL L kn' dg) F C' O N' d st ∧ cGo n k S v S' v'
def RRUN (n : Nat) (L : GL) (F : GF) (O : GO) (dg : Nat → Nat → Bool) (kn : Nat → Nat → Option Nat) (C : GC) (N : GN) (dq : Nat) (fr : QFR) (kn' : Nat → Nat → Option Nat) (C' : GC) (N' : GN) (k e c : Nat) : Prop := ∀ S d st, d + dq ≤ 700 → QR S (LL L kn dg) F C O N (d + 1) (va_up st d fr) → ∃ S', QR S' (LL L kn' dg) F C' O N' d st ∧ QA S' e c ∧ rGo n k S S'
/-- a LOAD comes to the same answer in both -/
def LD (n : Nat) (L : GL) (F : GF) (O : GO) (dg : Nat → Nat → Bool) (l nm : Nat) (kn : Nat → Nat → Option Nat) (C : GC) (N : GN) (p : Nat) : Prop := ∃ e c kn' C' N' k kr, PST L F C N nm e c kn' C' N' k ∧ k ≤ 50 * p + 50 ∧ kr ≤ 50 * p + 50 ∧ (e = 1 → k ≤ 4 * (l + 1) ∧ kr ≤ 5 * (l + 1)) ∧ CRUN n L F O dg kn C N (p + 1) (l, nm, none, 0) kn' C' N' k (ans e c) ∧ RRUN n L F O dg kn C N (2 * p + 2) (0, l, nm, 0, 0) kn' C' N' kr e c
/-- and so does a DEFINE -/
def DF (n : Nat) (L : GL) (F : GF) (O : GO) (dg : Nat → Nat → Bool) (l f : Nat) (kn : Nat → Nat → Option Nat) (C : GC) (N : GN) (p : Nat) : Prop := ∃ e c kn' C' N' k kr, PST L F C N (tf_nm F f) e c kn' C' N' k ∧ k ≤ 50 * p + 2 ∧ kr ≤ 50 * p + 2 ∧ e ≠ 1 ∧ (e = 0 → kn' l (tf_nm F f) = some c) ∧ CRUN n L F O dg kn C N (p + 1) (l, tf_nm F f, some f, 5) kn' C' N' k (ans e c) ∧ RRUN n L F O dg kn C N (2 * p + 1) (1, l, f, 0, 0) kn' C' N' kr e c
theorem FIN {n : Nat} {L : GL} {F : GF} (O : GO) (dg : Nat → Nat → Bool) {l f : Nat} {kn : Nat → Nat → Option Nat} {C : GC} (N : GN) {ab : Option Nat} (hn : 100 ≤ n) (hX : FX L F) (hJ : JV L F C kn) (hl : l < tl_n L) (hf : f < tf_n F) (hab : ∀ a, ab = some a → a < tc_n C) : ∃ e c kn' C', PST L F C N (tf_nm F f) e c kn' C' N 0 ∧ e ≠ 1 ∧ (e = 0 → kn' l (tf_nm F f) = some c) ∧
    (∀ S d st s, CR S (LL L kn dg) F C O N (d + 1) (va_up st d (l, tf_nm F f, some f, s)) → ∃ S', f_X4_finish n S 0 (some d) ab = some (ans e c, S') ∧ CR S' (LL L kn' dg) F C' O N d st) ∧
    (∀ S d st fr p3, QR S (LL L kn dg) F C O N (d + 1) (va_up st d fr) → p3 = nI (oc ab) - 1 → ∃ S', f_X10_makes n S 0 (nI l) (nI f) p3 = some ((), S') ∧ QR S' (LL L kn' dg) F C' O N d st ∧ QA S' e c) := by
  have h4 := (hX.2.2.2.2.2.1 f hf).1
  have hB := KB_of dg hX hJ
  have h30 := hX.2.2.2.2.2.2
  have h40 := hJ.2.2
  cases hb : brd (LL L kn dg) l (tf_nm F f) none with
  | true =>
    refine ⟨3, 0, kn, C, ⟨hJ, by omega, by omega, by omega, fun q => by omega, by omega, rfl⟩, by omega, fun q => by omega, fun S d st s h => ?_, fun S d st fr p3 h hp => ?_⟩
    · exact (CR_finish n hn h hl h4 ab).1 hb
    · obtain ⟨S', e, hR, hA⟩ := (QR_makes n hn h hB hl hf h30 rfl h4 ab p3 hp).1 hb
      exact ⟨S', e, hR, hA 0⟩
  | false =>
    by_cases hf40 : tc_n C = 40
    · refine ⟨12, 0, kn, C, ⟨hJ, by omega, by omega, by omega, fun q => by omega, by omega, rfl⟩, by omega, fun q => by omega, fun S d st s h => ?_, fun S d st fr p3 h hp => ?_⟩
      · exact (CR_finish n hn h hl h4 ab).2.1 hb hf40
      · obtain ⟨S', e, hR, hA⟩ := (QR_makes n hn h hB hl hf h30 rfl h4 ab p3 hp).2.1 hb hf40
        exact ⟨S', e, hR, hA 0⟩
    · refine ⟨0, tc_n C, lh_u2 kn l (tf_nm F f) (some (tc_n C)), cS C l f ab, ⟨JV_new hJ (by omega) hl hf rfl hab, ?_, by omega, by omega, fun _ => ⟨?_, ?_⟩, by omega, rfl⟩, by omega, fun _ => u2_s, fun S d st s h => ?_, fun S d st fr p3 h hp => ?_⟩
      · show tc_n C ≤ tc_n C + 1
        omega
      · show tc_n C < tc_n C + 1
        omega
      · show tf_nm F (va_up (tc_fl C) (tc_n C) f (tc_n C)) = tf_nm F f
        rw [va_s]
      · exact (CR_finish n hn h hl h4 ab).2.2 hb (by omega)
      · exact (QR_makes n hn h hB hl hf h30 rfl h4 ab p3 hp).2.2 hb (by omega)
theorem fao_0 {L : GL} {F : GF} {l f : Nat} (h : fao L F l f = 0) : tl_kn L l (tf_nm F f) = none ∧ tl_dg L l (tf_nm F f) = false := by
  unfold fao at h
  by_cases h1 : tf_nm F f < 5 ∧ l ≠ 0
  · rw [if_pos h1] at h; omega
  · rw [if_neg h1] at h
    by_cases h2 : tf_in F f ≠ tf_nm F f
    · rw [if_pos h2] at h; omega
    · rw [if_neg h2] at h
      by_cases h3 : tl_kn L l (tf_nm F f) ≠ none
      · rw [if_pos h3] at h; omega
      · rw [if_neg h3] at h
        by_cases h4 : tl_dg L l (tf_nm F f) = true
        · rw [if_pos h4] at h; omega
        · refine ⟨?_, ?_⟩
          · cases hc : tl_kn L l (tf_nm F f) with
            | none => rfl
            | some c => exact absurd (by rw [hc]; exact fun q => by cases q) h3
          · cases hc : tl_dg L l (tf_nm F f) with
            | false => rfl
            | true => exact absurd hc h4
theorem fao_v {L : GL} {F : GF} {l f : Nat} : fao L F l f ≤ 6 ∧ fao L F l f ≠ 1 := by
  unfold fao
  repeat' split
  all_goals omega
theorem DF_of {n : Nat} {L : GL} {F : GF} {O : GO} {dg : Nat → Nat → Bool} {l f : Nat} {kn : Nat → Nat → Option Nat} {C : GC} {N : GN} {p : Nat} (hn : 100 ≤ n) (hX : FX L F) (hJ : JV L F C kn) (hl : l < tl_n L) (hf : f < tf_n F) (hp : dg l (tf_nm F f) = false → 1 ≤ p) (hld : dg l (tf_nm F f) = false → LD n L F O (lh_u2 dg l (tf_nm F f) true) l (tf_ab F f) kn C N (p - 1)) : DF n L F O dg l f kn C N p := by
  have h4 := (hX.2.2.2.2.2.1 f hf).1
  have hin := (hX.2.2.2.2.2.1 f hf).2.1
  have hB := KB_of dg hX hJ
  have h30 := hX.2.2.2.2.2.2
  have h40 := hJ.2.2
  have fv := @fao_v (LL L kn dg) F l f
  by_cases h0 : fao (LL L kn dg) F l f = 0
  · have hd0 : dg l (tf_nm F f) = false := (fao_0 h0).2
    by_cases hz : tf_nm F f = 0
    · obtain ⟨e, c, kn', C', hP, he1, hkn, hc, hq⟩ := FIN (n := n) O dg (kn := kn) (C := C) N (ab := none) hn hX hJ hl hf (fun a q => by cases q)
      refine ⟨e, c, kn', C', N, 1, 1, ⟨hP.1, hP.2.1, hP.2.2.1, hP.2.2.2.1, hP.2.2.2.2.1, by omega, rfl⟩, by omega, by omega, he1, hkn, fun S d st v hdp h => ?_, fun S d st hdq h => ?_⟩
      · obtain ⟨S', x, hR⟩ := hc S d st 5 h
        exact ⟨S', hR, (T5 n hn h hl hf rfl h4 hin v).2.2 h0 hz _ _ x⟩
      · obtain ⟨S', x, hR, hA⟩ := hq S d st _ (-1) h (by decide)
        exact ⟨S', hR, hA, (D0 n h (by omega) hB h30 hl hf rfl h4 hin).2.2 h0 hz _ x⟩
    · have hp1 := hp hd0
      obtain ⟨e, c, kn', C', N', k, kr, hP, hk, hkr, -, hC, hR⟩ := hld hd0
      obtain ⟨hJ', hmo, he, hc, hec, hnl, hlf⟩ := hP
      have hB' := KB_of (lh_u2 dg l (tf_nm F f) true) hX hJ'
      have hbk := u2_back hd0
      -- the class comes to stage 6
      have goC : ∀ S d st v, d + (p + 1) ≤ 321 → CR S (LL L kn dg) F C O N (d + 1) (va_up st d (l, tf_nm F f, some f, 5)) → ∃ S2, CR S2 (LL L kn' (lh_u2 dg l (tf_nm F f) true)) F C' O N' (d + 1) (va_up st d (l, tf_nm F f, some f, 6)) ∧ cGo n (1 + k) S v S2 (ans e c) := by
        intro S d st v hdp h
        obtain ⟨S1, h1, g1⟩ := (T5 n hn h hl hf rfl h4 hin v).2.1 h0 hz (by omega)
        obtain ⟨S2, h2, g2⟩ := hC S1 (d + 1) _ (-1) (by omega) h1
        exact ⟨S2, h2, cGo_trans g1 g2⟩
      have goR : ∀ S d st, d + (2 * p + 1) ≤ 700 → QR S (LL L kn dg) F C O N (d + 1) (va_up st d (1, l, f, 0, 0)) → ∃ S2, QR S2 (LL L kn' (lh_u2 dg l (tf_nm F f) true)) F C' O N' (d + 1) (va_up st d (1, l, f, 1, 0)) ∧ QA S2 e c ∧ rGo n (1 + kr) S S2 := by
        intro S d st hdq h
        obtain ⟨S1, h1, g1⟩ := (D0 n h (by omega) hB h30 hl hf rfl h4 hin).2.1 h0 hz (by omega)
        obtain ⟨S2, h2, a2, g2⟩ := hR S1 (d + 1) _ (by omega) h1
        exact ⟨S2, h2, a2, rGo_trans g1 g2⟩
      have hLb : dS (LL L kn' (lh_u2 dg l (tf_nm F f) true)) l (tf_nm F f) false = LL L kn' dg := by
        show LL L kn' (lh_u2 (lh_u2 dg l (tf_nm F f) true) l (tf_nm F f) false) = LL L kn' dg
        rw [hbk]
      by_cases e1 : e = 1
      · refine ⟨2, 0, kn', C', N', 1 + k + 1, 1 + kr + 1, ⟨hJ', hmo, by omega, by omega, fun q => by omega, by omega, hlf⟩, by omega, by omega, by omega, fun q => by omega, fun S d st v hdp h => ?_, fun S d st hdq h => ?_⟩
        · obtain ⟨S2, h2, g2⟩ := goC S d st v hdp h
          obtain ⟨S3, h3, g3⟩ := (T6 n hn h2 hl h4 (e := e) (c := c) he hc).1 e1
          rw [hLb] at h3
          exact ⟨S3, h3, cGo_trans g2 g3⟩
        · obtain ⟨S2, h2, a2, g2⟩ := goR S d st hdq h
          obtain ⟨S3, h3, a3, g3⟩ := (D1 n h2 (by omega) hB' h30 hl hf rfl h4 he a2).1 e1
          rw [hLb] at h3
          exact ⟨S3, h3, a3 0, rGo_trans g2 g3⟩
      · by_cases e0 : e = 0
        · have hcc := hec e0
          have hfl := (hJ'.2.1 c hcc.1).2.1
          cases hfi : tf_fi F (tc_fl C' c) with
          | true =>
            refine ⟨7, 0, kn', C', N', 1 + k + 1, 1 + kr + 1, ⟨hJ', hmo, by omega, by omega, fun q => by omega, by omega, hlf⟩, by omega, by omega, by omega, fun q => by omega, fun S d st v hdp h => ?_, fun S d st hdq h => ?_⟩
            · obtain ⟨S2, h2, g2⟩ := goC S d st v hdp h
              obtain ⟨S3, h3, g3⟩ := (T6 n hn h2 hl h4 (e := e) (c := c) he hc).2.2.1 e0 hcc.1 hfl hfi
              rw [hLb] at h3
              exact ⟨S3, h3, cGo_trans g2 g3⟩
            · obtain ⟨S2, h2, a2, g2⟩ := goR S d st hdq h
              obtain ⟨S3, h3, a3, g3⟩ := (D1 n h2 (by omega) hB' h30 hl hf rfl h4 he a2).2.2.1 e0 hcc.1 hfl hfi
              rw [hLb] at h3
              exact ⟨S3, h3, a3 0, rGo_trans g2 g3⟩
          | false =>
            obtain ⟨e', c', kn2, C2, hP2, he12, hkn2, hc2, hq2⟩ := FIN (n := n) O dg (kn := kn') (C := C') N' (ab := some c) hn hX hJ' hl hf (fun a q => by cases q; exact hcc.1)
            refine ⟨e', c', kn2, C2, N', 1 + k + 1, 1 + kr + 1, ⟨hP2.1, by have := hP2.2.1; omega, hP2.2.2.1, hP2.2.2.2.1, hP2.2.2.2.2.1, by omega, hlf⟩, by omega, by omega, he12, hkn2, fun S d st v hdp h => ?_, fun S d st hdq h => ?_⟩
            · obtain ⟨S2, h2, g2⟩ := goC S d st v hdp h
              obtain ⟨S3, h3, g3⟩ := (T6 n hn h2 hl h4 (e := e) (c := c) he hc).2.2.2 e0 hcc.1 hfl hfi
              rw [hLb] at h3
              obtain ⟨S4, x4, h4'⟩ := hc2 S3 d st 6 h3
              exact ⟨S4, h4', cGo_trans g2 (g3 _ _ x4)⟩
            · obtain ⟨S2, h2, a2, g2⟩ := goR S d st hdq h
              obtain ⟨S3, h3, g3⟩ := (D1 n h2 (by omega) hB' h30 hl hf rfl h4 he a2).2.2.2 e0 hcc.1 hfl hfi
              rw [hLb] at h3
              obtain ⟨S4, x4, h4', a4⟩ := hq2 S3 d st _ (nI c) h3 (nI_pred c).symm
              exact ⟨S4, h4', a4, rGo_trans g2 (g3 _ x4)⟩
        · refine ⟨e, c, kn', C', N', 1 + k + 1, 1 + kr + 1, ⟨hJ', hmo, he, hc, fun q => absurd q e0, by omega, hlf⟩, by omega, by omega, e1, fun q => absurd q e0, fun S d st v hdp h => ?_, fun S d st hdq h => ?_⟩
          · obtain ⟨S2, h2, g2⟩ := goC S d st v hdp h
            obtain ⟨S3, h3, g3⟩ := (T6 n hn h2 hl h4 (e := e) (c := c) he hc).2.1 e0 e1
            rw [hLb] at h3
            exact ⟨S3, h3, cGo_trans g2 g3⟩
          · obtain ⟨S2, h2, a2, g2⟩ := goR S d st hdq h
            obtain ⟨S3, h3, a3, g3⟩ := (D1 n h2 (by omega) hB' h30 hl hf rfl h4 he a2).2.1 e0 e1
            rw [hLb] at h3
            exact ⟨S3, h3, a3 c, rGo_trans g2 g3⟩
  · refine ⟨fao (LL L kn dg) F l f, 0, kn, C, N, 1, 1, ⟨hJ, by omega, by omega, by omega, fun q => absurd q h0, by omega, rfl⟩, by omega, by omega, fv.2, fun q => absurd q h0, fun S d st v hdp h => ?_, fun S d st hdq h => ?_⟩
    · exact (T5 n hn h hl hf rfl h4 hin v).1 h0
    · obtain ⟨S', hR, hA, hg⟩ := (D0 n h (by omega) hB h30 hl hf rfl h4 hin).1 h0
      exact ⟨S', hR, hA 0, hg⟩
