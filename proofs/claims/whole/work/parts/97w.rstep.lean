/-! LOADING: the reference's stack; a frame is kind, loader, name or file, state, turn -/
abbrev QFR : Type := Nat × Nat × Nat × Nat × Nat
def QT (S : lh_S) (d : Nat) (st : Nat → QFR) : Prop := gvI S 10 0 32 = nI d ∧ ∀ j, j < d → gvI S 57 0 j = nI (st j).1 ∧ gvI S 58 0 j = nI (st j).2.1 ∧ gvI S 59 0 j = nI (st j).2.2.1 ∧ gvI S 60 0 j = nI (st j).2.2.2.1 ∧ gvI S 61 0 j = nI (st j).2.2.2.2
def QR (S : lh_S) (L : GL) (F : GF) (C : GC) (O : GO) (N : GN) (d : Nat) (st : Nat → QFR) : Prop := QX S ∧ QL S L ∧ QF S F ∧ QC S C F ∧ QO S O ∧ QN S N ∧ QT S d st
/-- what has just ended: failure, or class -/
def QA (S : lh_S) (e c : Nat) : Prop := gvI S 10 0 34 = nI e ∧ (e = 0 → gvI S 10 0 33 = nI c)
theorem QT_top {S : lh_S} {d k l x s u : Nat} {st : Nat → QFR} (h : QT S (d + 1) (va_up st d (k, l, x, s, u))) : gvI S 57 0 d = nI k ∧ gvI S 58 0 d = nI l ∧ gvI S 59 0 d = nI x ∧ gvI S 60 0 d = nI s ∧ gvI S 61 0 d = nI u ∧ gvI S 10 0 32 = nI (d + 1) := by
  have h7 := h.2 d (by omega)
  rw [va_s] at h7
  exact ⟨h7.1, h7.2.1, h7.2.2.1, h7.2.2.2.1, h7.2.2.2.2, h.1⟩
theorem QT_pop {S : lh_S} {d : Nat} {fr : QFR} {st : Nat → QFR} (h : QT S (d + 1) (va_up st d fr)) : QT (pvI S 10 0 32 (nI d)) d st := by
  refine ⟨gI_s, fun j hj => ?_⟩
  have h7 := h.2 j (by omega)
  rw [va_n (by omega)] at h7
  exact h7
theorem QR_ends {S : lh_S} {L : GL} {F : GF} {C : GC} {O : GO} {N : GN} {d : Nat} {fr : QFR} {st : Nat → QFR} (n : Nat) (h : QR S L F C O N (d + 1) (va_up st d fr)) {e : Nat} (he : e ≠ 0) : ∃ S', f_X10_ends n S 0 (nI e) = some ((), S') ∧ QR S' L F C O N d st ∧ ∀ c, QA S' e c := by
  obtain ⟨qX, qL, qF, qC, qO, qN, qT⟩ := h
  have qT2 := QT_pop qT
  refine ⟨pvI (pvI S 10 0 32 (nI d)) 10 0 34 (nI e), ?_, ⟨qX, qL, qF, qC, qO, qN, qT2⟩, fun c => ⟨gI_s, fun q => absurd q he⟩⟩
  unfold f_X10_ends
  rw [qT.1, show nI (d + 1) - (1 : Int32) = nI d from nI_pred d, dc_let_q, dc_let_q, dc_let_q]
theorem QR_gives {S : lh_S} {L : GL} {F : GF} {C : GC} {O : GO} {N : GN} {d : Nat} {fr : QFR} {st : Nat → QFR} (n : Nat) (h : QR S L F C O N (d + 1) (va_up st d fr)) (c : Nat) : ∃ S', f_X10_gives n S 0 (nI c) = some ((), S') ∧ QR S' L F C O N d st ∧ QA S' 0 c := by
  obtain ⟨qX, qL, qF, qC, qO, qN, qT⟩ := h
  have qT2 := QT_pop qT
  refine ⟨pvI (pvI (pvI S 10 0 32 (nI d)) 10 0 34 (0 : Int32)) 10 0 33 (nI c), ?_, ⟨qX, qL, qF, qC, qO, qN, qT2⟩, ⟨rfl, fun q => gI_s⟩⟩
  unfold f_X10_gives
  rw [qT.1, show nI (d + 1) - (1 : Int32) = nI d from nI_pred d, dc_let_q, dc_let_q, dc_let_q, dc_let_q]
theorem gg {j m x : Nat} (h : x = m) (hj : j < m) (hm : m ≤ 100000) : ¬ (nI j < 0 ∨ x ≤ j) := by
  rintro (q | q)
  · exact nI_pos (by omega) q
  · omega
theorem QR_push {S : lh_S} {L : GL} {F : GF} {C : GC} {O : GO} {N : GN} {d : Nat} {st : Nat → QFR} (n : Nat) (h : QR S L F C O N d st) (hd : d < 700) (k l x : Nat) : ∃ S', f_X10_push n S 0 (nI k) (nI l) (nI x) = some ((), S') ∧ QR S' L F C O N (d + 1) (va_up st d (k, l, x, 0, 0)) := by
  obtain ⟨qX, qL, qF, qC, qO, qN, qT⟩ := h
  obtain ⟨S1, h1⟩ : ∃ S1, S1 = pvI S 57 0 d (nI k) := ⟨_, rfl⟩
  obtain ⟨S2, h2⟩ : ∃ S2, S2 = pvI S1 58 0 d (nI l) := ⟨_, rfl⟩
  obtain ⟨S3, h3⟩ : ∃ S3, S3 = pvI S2 59 0 d (nI x) := ⟨_, rfl⟩
  obtain ⟨S4, h4⟩ : ∃ S4, S4 = pvI S3 60 0 d (0 : Int32) := ⟨_, rfl⟩
  obtain ⟨S5, h5⟩ : ∃ S5, S5 = pvI S4 61 0 d (0 : Int32) := ⟨_, rfl⟩
  have q1 : QX S1 := by rw [h1]; exact qX
  have q2 : QX S2 := by rw [h2]; exact q1
  have q3 : QX S3 := by rw [h3]; exact q2
  have q4 : QX S4 := by rw [h4]; exact q3
  have q5 : QX S5 := by rw [h5]; exact q4
  have t1 : gvI S1 10 0 32 = nI d := by rw [h1]; exact qT.1
  have t2 : gvI S2 10 0 32 = nI d := by rw [h2]; exact t1
  have t3 : gvI S3 10 0 32 = nI d := by rw [h3]; exact t2
  have t4 : gvI S4 10 0 32 = nI d := by rw [h4]; exact t3
  have t5 : gvI S5 10 0 32 = nI d := by rw [h5]; exact t4
  refine ⟨pvI S5 10 0 32 (nI (d + 1)), ?_, ?_⟩
  · unfold f_X10_push
    rw [qT.1, ix_c (by omega), dc_nn_e (qx_27 qX), dc_gd_n (gg (ql_57 qX) hd (by omega)), ← h1, dc_let_q, dc_nn_e (qx_28 q1), t1, ix_c (by omega), dc_gd_n (gg (ql_58 q1) hd (by omega)), ← h2, dc_let_q, dc_nn_e (qx_29 q2), t2, ix_c (by omega), dc_gd_n (gg (ql_59 q2) hd (by omega)), ← h3, dc_let_q, dc_nn_e (qx_30 q3), t3, ix_c (by omega), dc_gd_n (gg (ql_60 q3) hd (by omega)), ← h4, dc_let_q, dc_nn_e (qx_31 q4), t4, ix_c (by omega), dc_gd_n (gg (ql_61 q4) hd (by omega)), ← h5, dc_let_q, t5, nI_1, dc_let_q, dc_let_q]
  · subst h5 h4 h3 h2 h1
    refine ⟨qX, qL, qF, qC, qO, qN, gI_s, fun j hj => ?_⟩
    by_cases hjd : j = d
    · subst hjd
      rw [va_s]
      refine ⟨?_, ?_, ?_, ?_, ?_⟩
      · show gvI (pvI S 57 0 j (nI k)) 57 0 j = _
        exact gI_s
      · show gvI (pvI (pvI S 57 0 j (nI k)) 58 0 j (nI l)) 58 0 j = _
        exact gI_s
      · show gvI (pvI (pvI (pvI S 57 0 j (nI k)) 58 0 j (nI l)) 59 0 j (nI x)) 59 0 j = _
        exact gI_s
      · show gvI (pvI (pvI (pvI (pvI S 57 0 j (nI k)) 58 0 j (nI l)) 59 0 j (nI x)) 60 0 j (0 : Int32)) 60 0 j = _
        exact gI_s
      · show gvI (pvI (pvI (pvI (pvI (pvI S 57 0 j (nI k)) 58 0 j (nI l)) 59 0 j (nI x)) 60 0 j (0 : Int32)) 61 0 j (0 : Int32)) 61 0 j = _
        exact gI_s
    · rw [va_n hjd]
      have h7 := qT.2 j (by omega)
      refine ⟨?_, ?_, ?_, ?_, ?_⟩
      · exact (show gvI (pvI S 57 0 d (nI k)) 57 0 j = _ from (gI_q hjd).trans h7.1)
      · exact (show gvI (pvI S 58 0 d (nI l)) 58 0 j = _ from (gI_q hjd).trans h7.2.1)
      · exact (show gvI (pvI S 59 0 d (nI x)) 59 0 j = _ from (gI_q hjd).trans h7.2.2.1)
      · exact (show gvI (pvI S 60 0 d (0 : Int32)) 60 0 j = _ from (gI_q hjd).trans h7.2.2.2.1)
      · exact (show gvI (pvI S 61 0 d (0 : Int32)) 61 0 j = _ from (gI_q hjd).trans h7.2.2.2.2)
theorem QT_state {S : lh_S} {d k l x s u : Nat} {st : Nat → QFR} (s' : Nat) (h : QT S (d + 1) (va_up st d (k, l, x, s, u))) : QT (pvI S 60 0 d (nI s')) (d + 1) (va_up st d (k, l, x, s', u)) := by
  refine ⟨h.1, fun j hj => ?_⟩
  have h7 := h.2 j hj
  by_cases hjd : j = d
  · subst hjd
    rw [va_s] at h7 ⊢
    exact ⟨h7.1, h7.2.1, h7.2.2.1, gI_s, h7.2.2.2.2⟩
  · rw [va_n hjd] at h7 ⊢
    exact ⟨h7.1, h7.2.1, h7.2.2.1, (gI_q hjd).trans h7.2.2.2.1, h7.2.2.2.2⟩
theorem QT_turn {S : lh_S} {d k l x s u : Nat} {st : Nat → QFR} (u' : Nat) (h : QT S (d + 1) (va_up st d (k, l, x, s, u))) : QT (pvI S 61 0 d (nI u')) (d + 1) (va_up st d (k, l, x, s, u')) := by
  refine ⟨h.1, fun j hj => ?_⟩
  have h7 := h.2 j hj
  by_cases hjd : j = d
  · subst hjd
    rw [va_s] at h7 ⊢
    exact ⟨h7.1, h7.2.1, h7.2.2.1, h7.2.2.2.1, gI_s⟩
  · rw [va_n hjd] at h7 ⊢
    exact ⟨h7.1, h7.2.1, h7.2.2.1, h7.2.2.2.1, (gI_q hjd).trans h7.2.2.2.2⟩
theorem QR_state {S : lh_S} {L : GL} {F : GF} {C : GC} {O : GO} {N : GN} {d k l x s u : Nat} {st : Nat → QFR} (s' : Nat) (h : QR S L F C O N (d + 1) (va_up st d (k, l, x, s, u))) : QR (pvI S 60 0 d (nI s')) L F C O N (d + 1) (va_up st d (k, l, x, s', u)) := by
  obtain ⟨qX, qL, qF, qC, qO, qN, qT⟩ := h
  exact ⟨qX, qL, qF, qC, qO, qN, QT_state s' qT⟩
theorem QR_turn {S : lh_S} {L : GL} {F : GF} {C : GC} {O : GO} {N : GN} {d k l x s u : Nat} {st : Nat → QFR} (u' : Nat) (h : QR S L F C O N (d + 1) (va_up st d (k, l, x, s, u))) : QR (pvI S 61 0 d (nI u')) L F C O N (d + 1) (va_up st d (k, l, x, s, u')) := by
  obtain ⟨qX, qL, qF, qC, qO, qN, qT⟩ := h
  exact ⟨qX, qL, qF, qC, qO, qN, QT_turn u' qT⟩
theorem QR_note {S : lh_S} {L : GL} {F : GF} {C : GC} {O : GO} {N : GN} {d : Nat} {st : Nat → QFR} (l nm : Nat) (h : QR S L F C O N d st) : QR (pvI (pvI S 56 0 (tn_ld N % 30) ((64 : Int32) * nI l + nI nm)) 10 0 25 (nI (tn_ld N + 1))) L F C O (nt N l nm) d st := by
  obtain ⟨qX, qL, qF, qC, qO, qN, qT⟩ := h
  refine ⟨qX, qL, qF, qC, qO, ⟨gI_s, fun j hj => ?_, qN.2.2⟩, qT⟩
  show gvI (pvI S 56 0 (tn_ld N % 30) ((64 : Int32) * nI l + nI nm)) 56 0 j = va_up (tn_rg N) (tn_ld N % 30) ((64 : Int32) * nI l + nI nm) j
  by_cases hj2 : j = tn_ld N % 30
  · subst hj2
    rw [gI_s, va_s]
  · rw [gI_q hj2, va_n hj2]
    exact qN.2.1 j hj
theorem QL_k {S : lh_S} {L : GL} {l nm : Nat} (c : Nat) (h : QL S L) (hl : l < tl_n L) (hnm : nm < 40) : QL (pvI S 44 0 (40 * l + nm) (nI (c + 1))) (kS L l nm c) := by
  obtain ⟨q1, q2, q3, q4⟩ := h
  refine ⟨q1, q2, q3, fun l' n' hl' hn' => ?_⟩
  obtain ⟨y1, y2, y3, y4⟩ := q4 l' n' hl' hn'
  refine ⟨y1, ?_, y3, y4⟩
  show gvI (pvI S 44 0 (40 * l + nm) (nI (c + 1))) 44 0 (40 * l' + n') = nI (if l' < tl_n L then oc (lh_u2 (tl_kn L) l nm (some c) l' n') else 0)
  by_cases hq : l' = l ∧ n' = nm
  · obtain ⟨rfl, rfl⟩ := hq
    rw [gI_s, u2_s, if_pos hl]
    rfl
  · rw [gI_q (by omega), u2_n hq]
    exact y2
theorem QR_k {S : lh_S} {L : GL} {F : GF} {C : GC} {O : GO} {N : GN} {d : Nat} {st : Nat → QFR} (c : Nat) {l nm : Nat} (h : QR S L F C O N d st) (hl : l < tl_n L) (hnm : nm < 40) : QR (pvI S 44 0 (40 * l + nm) (nI (c + 1))) (kS L l nm c) F C O N d st := by
  obtain ⟨qX, qL, qF, qC, qO, qN, qT⟩ := h
  exact ⟨qX, QL_k c qL hl hnm, qF, qC, qO, qN, qT⟩
theorem QL_d {S : lh_S} {L : GL} {l nm : Nat} (b : Bool) (h : QL S L) (hl : l < tl_n L) (hnm : nm < 40) : QL (pvI S 45 0 (40 * l + nm) (if b then 1 else 0)) (dS L l nm b) := by
  obtain ⟨q1, q2, q3, q4⟩ := h
  refine ⟨q1, q2, q3, fun l' n' hl' hn' => ?_⟩
  obtain ⟨y1, y2, y3, y4⟩ := q4 l' n' hl' hn'
  refine ⟨y1, y2, ?_, y4⟩
  show gvI (pvI S 45 0 (40 * l + nm) (if b then 1 else 0)) 45 0 (40 * l' + n') = (if l' < tl_n L ∧ lh_u2 (tl_dg L) l nm b l' n' = true then 1 else 0)
  by_cases hq : l' = l ∧ n' = nm
  · obtain ⟨rfl, rfl⟩ := hq
    rw [gI_s, u2_s]
    cases b
    · rw [if_neg (by decide), if_neg (fun q => by cases q.2)]
    · rw [if_pos rfl, if_pos ⟨hl, rfl⟩]
  · rw [gI_q (by omega), u2_n hq]
    exact y3
theorem QR_d {S : lh_S} {L : GL} {F : GF} {C : GC} {O : GO} {N : GN} {d : Nat} {st : Nat → QFR} (b : Bool) {l nm : Nat} (h : QR S L F C O N d st) (hl : l < tl_n L) (hnm : nm < 40) : QR (pvI S 45 0 (40 * l + nm) (if b then 1 else 0)) (dS L l nm b) F C O N d st := by
  obtain ⟨qX, qL, qF, qC, qO, qN, qT⟩ := h
  exact ⟨qX, QL_d b qL hl hnm, qF, qC, qO, qN, qT⟩
/-- k turns of the reference -/
def rGo (n k : Nat) (S S' : lh_S) : Prop := ∀ g p1 p2 p3, f_X10_goes_L17 n 0 p1 p2 p3 (k + g) S = f_X10_goes_L17 n 0 p1 p2 p3 g S'
theorem rGo_trans {n k k2 : Nat} {S S1 S2 : lh_S} (h1 : rGo n k S S1) (h2 : rGo n k2 S1 S2) : rGo n (k + k2) S S2 := by
  intro g p1 p2 p3
  rw [show k + k2 + g = k + (k2 + g) by omega, h1 (k2 + g), h2 g]
theorem rGo_load {S S' : lh_S} {d l x s u n : Nat} {st : Nat → QFR} (qX : QX S) (h : QT S (d + 1) (va_up st d (0, l, x, s, u))) (hd : d < 700) (e : f_X10_oneLoad n S 0 (nI d) = some ((), S')) : rGo n 1 S S' := by
  obtain ⟨t1, t2, t3, t4, t5, t6⟩ := QT_top h
  intro g p1 p2 p3
  rw [show 1 + g = g + 1 by omega, f_X10_goes_L17, t6, dc_if_n (nI_nle (by omega) (by omega)), show nI (d + 1) - (1 : Int32) = nI d from nI_pred d, dc_let_q, dc_nn_e (qx_27 qX), dc_gd_n (by rw [ql_57 qX]; exact ix_in hd (by omega)), ix_c (by omega), t1, dc_if_p (by decide), dc_let_q, e, dc_bd_s]
theorem rGo_def {S S' : lh_S} {d l x s u n : Nat} {st : Nat → QFR} (qX : QX S) (h : QT S (d + 1) (va_up st d (1, l, x, s, u))) (hd : d < 700) (e : f_X10_oneDefining n S 0 (nI d) = some ((), S')) : rGo n 1 S S' := by
  obtain ⟨t1, t2, t3, t4, t5, t6⟩ := QT_top h
  intro g p1 p2 p3
  rw [show 1 + g = g + 1 by omega, f_X10_goes_L17, t6, dc_if_n (nI_nle (by omega) (by omega)), show nI (d + 1) - (1 : Int32) = nI d from nI_pred d, dc_let_q, dc_nn_e (qx_27 qX), dc_gd_n (by rw [ql_57 qX]; exact ix_in hd (by omega)), ix_c (by omega), t1, dc_if_n (by decide), dc_let_q, e, dc_bd_s]
theorem qv_oth {S : lh_S} {L : GL} (n : Nat) (qX : QX S) (qL : QL S L) (h8 : tl_n L ≤ 8) {l nm q : Nat} {p3 : Int32} {m : Option Nat} (hl : l < tl_n L) (hnm : nm < 40) (hp : p3 + 1 = nI q) (hq : q < 100) (hg : ∀ i, i < tl_n L → tl_grp L i nm < tl_n L) (hk : ∀ i, i < tl_n L → oc (tl_kn L i nm) < 100) (hm : ∀ i, i < tl_n L → tl_kn L i nm ≠ none → (oc (tl_kn L i nm) = q ↔ tl_kn L i nm = m)) : ∀ (d g i : Nat), tl_n L - i = d → i ≤ tl_n L → d + 1 ≤ g → f_X10_isBarred_L3 n 0 (nI l) (nI nm) p3 g S (nI i) = some (if oth L (fun j => decide (tl_grp L j nm = tl_grp L l nm)) nm m d i = true then 1 else 0, S) := by
  intro d
  induction d with
  | zero =>
    intro g i hd hi hg2
    obtain ⟨g, rfl⟩ : ∃ q, g = q + 1 := ⟨g - 1, by omega⟩
    have : i = tl_n L := by omega
    subst this
    rw [f_X10_isBarred_L3, qL.1, dc_if_p (nI_le (by omega) (by omega)), oth, if_neg (by decide)]
  | succ d ih =>
    intro g i hd hi hg2
    obtain ⟨g, rfl⟩ : ∃ q, g = q + 1 := ⟨g - 1, by omega⟩
    have hi2 : i < tl_n L := by omega
    have hr := ih g (i + 1) (by omega) (by omega) (by omega)
    obtain ⟨-, y2, -, y4⟩ := qL.2.2.2 i nm (by omega) hnm
    obtain ⟨-, -, -, z4⟩ := qL.2.2.2 l nm (by omega) hnm
    have y4 := y4 hi2
    have z4 := z4 hl
    rw [if_pos hi2] at y2
    have g1 := hg i hi2
    have g2 := hg l hl
    have k1 := hk i hi2
    rw [f_X10_isBarred_L3, qL.1, dc_if_n (nI_ge hi2 (by omega)), dc_nn_e (qx_16 qX), at40, at40, ix_c (j := 40 * i + nm) (by omega), ix_c (j := 40 * l + nm) (by omega), dc_gd_n (gg (ql_46 qX) (by omega) (by omega)), dc_gd_n (gg (ql_46 qX) (by omega) (by omega)), y4, z4, nI_1, hr, oth]
    by_cases hP : tl_grp L i nm = tl_grp L l nm
    · rw [dc_if_p (by rw [hP]), dc_nn_e (qx_14 qX), dc_gd_n (gg (ql_44 qX) (by omega) (by omega)), y2]
      by_cases hkn : tl_kn L i nm = none
      · rw [hkn, dc_if_p (by decide), if_neg (show ¬ (decide (tl_grp L i nm = tl_grp L l nm) = true ∧ (none : Option Nat) ≠ none ∧ (none : Option Nat) ≠ m) from fun q => q.2.1 rfl)]
      · have h0 : 0 < oc (tl_kn L i nm) := by
          cases hc : tl_kn L i nm with
          | none => exact absurd hc hkn
          | some c => simp [oc]
        rw [dc_if_n (nI_nle h0 (by omega)), dc_gd_n (gg (ql_44 qX) (by omega) (by omega)), hp]
        by_cases hm2 : tl_kn L i nm = m
        · rw [dc_if_p (by rw [(hm i hi2 hkn).mpr hm2]), if_neg (show ¬ (decide (tl_grp L i nm = tl_grp L l nm) = true ∧ tl_kn L i nm ≠ none ∧ tl_kn L i nm ≠ m) from fun q => q.2.2 hm2)]
        · rw [dc_if_n (fun q => hm2 ((hm i hi2 hkn).mp ((nI_eq (by omega) (by omega)).mp q))), if_pos (show decide (tl_grp L i nm = tl_grp L l nm) = true ∧ tl_kn L i nm ≠ none ∧ tl_kn L i nm ≠ m from ⟨decide_eq_true hP, hkn, hm2⟩), if_pos rfl]
    · rw [dc_if_n (fun q => hP ((nI_eq (by omega) (by omega)).mp q)), if_neg (show ¬ (decide (tl_grp L i nm = tl_grp L l nm) = true ∧ tl_kn L i nm ≠ none ∧ tl_kn L i nm ≠ m) from fun q => hP (of_decide_eq_true q.1))]
/-- what the loading keeps of the abstract state, for the bar -/
def KB (L : GL) (C : GC) : Prop := (∀ l n c, l < tl_n L → n < 40 → tl_kn L l n = some c → c < tc_n C) ∧ (∀ l n, l < tl_n L → n < 40 → tl_grp L l n < tl_n L) ∧ tc_n C ≤ 40 ∧ tl_n L ≤ 8
theorem KB_oc {L : GL} {C : GC} (h : KB L C) {l nm : Nat} (hl : l < tl_n L) (hnm : nm < 40) : oc (tl_kn L l nm) ≤ 40 := by
  have h2 := h.2.2.1
  cases hc : tl_kn L l nm with
  | none => simp [oc]
  | some c =>
    have := h.1 l nm c hl hnm hc
    show c + 1 ≤ 40
    omega
theorem qv_barred_s {S : lh_S} {L : GL} {C : GC} (n : Nat) (hn : 100 ≤ n) (qX : QX S) (qL : QL S L) (hB : KB L C) {l nm c : Nat} (hl : l < tl_n L) (hnm : nm < 40) (hc : c < 41) : f_X10_isBarred n S 0 (nI l) (nI nm) (nI c) = some (if brd L l nm (some c) = true then 1 else 0, S) := by
  have h8 := hB.2.2.2
  unfold f_X10_isBarred
  exact qv_oth n qX qL h8 hl hnm (nI_1 c) (by omega) (fun i hi => hB.2.1 i nm hi hnm) (fun i hi => by have := KB_oc hB hi hnm; omega) (fun i hi hk => by
    cases hc : tl_kn L i nm with
    | none => exact absurd hc hk
    | some c' =>
      simp [oc]) (tl_n L) n 0 (by omega) (by omega) (by omega)
theorem qv_barred_n {S : lh_S} {L : GL} {C : GC} (n : Nat) (hn : 100 ≤ n) (qX : QX S) (qL : QL S L) (hB : KB L C) {l nm : Nat} (hl : l < tl_n L) (hnm : nm < 40) : f_X10_isBarred n S 0 (nI l) (nI nm) (40 : Int32) = some (if brd L l nm none = true then 1 else 0, S) := by
  have h8 := hB.2.2.2
  unfold f_X10_isBarred
  exact qv_oth n qX qL h8 hl hnm (p3 := 40) (q := 41) (by decide) (by omega) (fun i hi => hB.2.1 i nm hi hnm) (fun i hi => by have := KB_oc hB hi hnm; omega) (fun i hi hk => by
    have := KB_oc hB hi hnm
    constructor
    · intro q; omega
    · intro q; exact absurd q hk) (tl_n L) n 0 (by omega) (by omega) (by omega)
